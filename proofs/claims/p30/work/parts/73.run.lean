/-! ===== charges that are as their parts are; running ===== -/
/-- what parts have of what one has of each -/
def lmS (L w : Nat → Int32) : Nat → Int32
  | 0 => 0
  | b + 1 => lmS L w b + w b * L b
def lmE (L : Nat → Int32) (x : CV) : Prop := lmS L x.2.2 4 = x.2.1 0
theorem lmS_c {L w w' : Nat → Int32} : ∀ {n : Nat}, (∀ k, k < n → w k = w' k) → lmS L w n = lmS L w' n
  | 0, _ => rfl
  | n + 1, h => by
    show lmS L w n + w n * L n = lmS L w' n + w' n * L n
    rw [lmS_c (fun k hk => h k (by omega)), h n (by omega)]
theorem lmE_c {L : Nat → Int32} {x y : CV} (h : cEq x y) (g : lmE L y) : lmE L x := by
  unfold lmE at g ⊢
  rw [h.2.1 0 (by decide), lmS_c (fun k hk => h.2.2 k (by omega))]
  exact g
def chG (L : Nat → Int32) (x : CV) : Prop := chN x ∧ lmE L x
theorem chG_burn {L : Nat → Int32} {x : CV} {u : Nat} (hu : u ≤ 100) (h : chG L x) : chG L (chBurn (nI u) x) := ⟨chN_burn hu h.1, h.2⟩
def kN (L : Nat → Int32) (S : KS) : Prop := (∃ f : Nat, f ≤ 9 ∧ S.1 0 = nI f) ∧ (∀ k, k < 5 → ∃ u : Nat, u ≤ 27 ∧ S.2.2.2.2.2 k = nI u) ∧ (∀ k, k < 5 → ¬ (S.2.2.1 k).1 0 = 0 → chG L (S.2.2.1 k)) ∧ ∀ i, i < S.2.1 → (S.2.2.2.1 i).1 0 = 1 ∧ chG L (S.2.2.2.1 i)
theorem sV1_g {L : Nat → Int32} {S : KS} (h : kN L S) : ∀ k, k < 5 → ¬ (sV1 S k).1 0 = 0 → chG L (sV1 S k) := by
  obtain ⟨h1, h2, h3, h4⟩ := h
  intro k hk
  unfold sV1 kmV
  by_cases r : S.1 2 < 6
  · rw [if_pos r]
    match k, hk with
    | 0, _ =>
      show ¬ (nwV S.2.1 S.2.2.2.1 S.2.2.2.2.1).1 0 = 0 → chG L (nwV S.2.1 S.2.2.2.1 S.2.2.2.2.1)
      unfold nwV
      by_cases n0 : S.2.1 = 0
      · rw [if_pos n0]
        exact fun q => (q rfl).elim
      · rw [if_neg n0]
        exact fun _ => (h4 0 (by omega)).2
    | 1, _ => exact h3 0 (by decide)
    | 2, _ => exact h3 1 (by decide)
    | 3, _ => exact h3 2 (by decide)
    | 4, _ => exact h3 3 (by decide)
  · rw [if_neg r]
    exact h3 k hk
theorem kN_st {L : Nat → Int32} {S : KS} (hw : kwf S) (h : kN L S) : kN L (kst S) := by
  have hv := sV1_g h
  have hW := wm_nat (v := sV1 S) h.2.1 (kBurns_nat (co := S.1 1) h.1)
  obtain ⟨h1, h2, h3, h4⟩ := h
  refine ⟨h1, hW, fun k hk => ?_, fun i hi => ?_⟩
  · have e : sV2 S k = stC (sW1 S k) (sV1 S k) := if_pos hk
    show ¬ (sV2 S k).1 0 = 0 → chG L (sV2 S k)
    rw [e]
    unfold stC
    by_cases q : (sV1 S k).1 0 = 0
    · rw [if_pos q]
      exact fun z => absurd q z
    · rw [if_neg q]
      obtain ⟨u, hu, eu⟩ := hW k hk
      have eu2 : sW1 S k = nI u := eu
      rw [eu2]
      exact fun _ => chG_burn (by omega) (hv k hk q)
  · have hi2 : i < kmN (S.1 2) S.2.1 := hi
    show (kmW (S.1 2) S.2.1 S.2.2.2.1 S.2.2.2.2.1 i).1 0 = 1 ∧ chG L (kmW (S.1 2) S.2.1 S.2.2.2.1 S.2.2.2.2.1 i)
    have h6 := hw.1
    unfold kmN at hi2
    unfold kmW nwW
    by_cases r : S.1 2 < 6
    · rw [if_pos r] at hi2
      have n0 : ¬ S.2.1 = 0 := by omega
      rw [if_pos r, if_neg n0]
      have hh : i = 0 ∨ i = 1 := by omega
      rcases hh with rfl | rfl
      · exact h4 1 (by omega)
      · exact h4 2 (by omega)
    · rw [if_neg r] at hi2
      rw [if_neg r]
      exact h4 i hi2
theorem kN_out {L : Nat → Int32} {S : KS} (h : kN L S) (ho : ¬ kmR (S.1 2) S.2.2.1 = 0) : chG L (kst S).2.2.2.2.1 := by
  show chG L (kmY (S.1 2) S.2.2.1 S.2.2.2.2.1)
  unfold kmR at ho
  unfold kmY
  by_cases r : S.1 2 < 6
  · rw [if_pos r] at ho ⊢
    exact h.2.2.1 4 (by decide) ho
  · rw [if_neg r] at ho
    exact absurd rfl ho
theorem kN_it {L : Nat → Int32} {S : KS} (hw : kwf S) (h : kN L S) : ∀ t, kN L (kIt t S)
  | 0 => h
  | t + 1 => kN_st (kwf_kIt hw t) (kN_it hw h t)
/-- how many are in the cells -/
def bitC (x : CV) : Nat := if x.1 0 = 0 then 0 else 1
def cnt5 (v : Nat → CV) : Nat := bitC (v 0) + bitC (v 1) + bitC (v 2) + bitC (v 3) + bitC (v 4)
def outN (S : KS) : Nat := if kmR (S.1 2) S.2.2.1 = 0 then 0 else 1
theorem cnt_st {L : Nat → Int32} {S : KS} (h : kN L S) : cnt5 (kst S).2.2.1 + (kst S).2.1 + outN S = cnt5 S.2.2.1 + S.2.1 := by
  have e2 : ∀ k, bitC (sV2 S k) = bitC (sV1 S k) := fun k => by
    unfold bitC
    rw [(sV2_0 (S := S) (k := k)).1]
  have e3 : cnt5 (kst S).2.2.1 = cnt5 (sV1 S) := by
    show bitC (sV2 S 0) + bitC (sV2 S 1) + bitC (sV2 S 2) + bitC (sV2 S 3) + bitC (sV2 S 4) = _
    rw [e2, e2, e2, e2, e2]
    rfl
  have e4 : (kst S).2.1 = kmN (S.1 2) S.2.1 := rfl
  rw [e3, e4]
  unfold outN kmR kmN
  by_cases r : S.1 2 < 6
  · have eV : sV1 S = rot5 S.2.2.1 (nwV S.2.1 S.2.2.2.1 S.2.2.2.2.1) := if_pos r
    rw [if_pos r, if_pos r, eV]
    show bitC (nwV S.2.1 S.2.2.2.1 S.2.2.2.2.1) + bitC (S.2.2.1 0) + bitC (S.2.2.1 1) + bitC (S.2.2.1 2) + bitC (S.2.2.1 3) + (S.2.1 - 1) + bitC (S.2.2.1 4) = bitC (S.2.2.1 0) + bitC (S.2.2.1 1) + bitC (S.2.2.1 2) + bitC (S.2.2.1 3) + bitC (S.2.2.1 4) + S.2.1
    unfold nwV
    by_cases n0 : S.2.1 = 0
    · rw [if_pos n0, show bitC (chOff S.2.2.2.2.1) = 0 from if_pos rfl]
      omega
    · have hx := (h.2.2.2 0 (by omega)).1
      rw [if_neg n0, show bitC (S.2.2.2.1 0) = 1 from if_neg (by rw [hx]; decide)]
      omega
  · have eV : sV1 S = S.2.2.1 := if_neg r
    rw [if_neg r, if_neg r, eV, if_pos rfl]
    omega
/-- running: lots, what came out, what is in the kiln -/
theorem rIt_s (S : KS) (nl : Nat) (lz : Nat → LV) (du : Int32) (t : Nat) : rIt S nl lz du (t + 1) = if kmR ((kIt t S).1 2) (kIt t S).2.2.1 = 0 then rIt S nl lz du t else (stN (rIt S nl lz du t).1, stL (rIt S nl lz du t).1 (rIt S nl lz du t).2.1 (kIt (t + 1) S).2.2.2.2.1, stD (rIt S nl lz du t).1 (rIt S nl lz du t).2.2.1, (rIt S nl lz du t).2.2.2 + 1) := rfl
def lG (L : Nat → Int32) (nl : Nat) (lz : Nat → LV) : Prop := ∀ j, j < nl → lmE L (lz j).2.2
theorem rIt_ok {L : Nat → Int32} {S : KS} {nl : Nat} {lz : Nat → LV} {du : Int32} {M : Nat} (hw : kwf S) (h : kN L S) (hM : nl + (cnt5 S.2.2.1 + S.2.1) = M) (hM12 : M ≤ 12) (hl : lG L nl lz) (hf : lFr lz) : ∀ t,
    (rIt S nl lz du t).1 = nl + (rIt S nl lz du t).2.2.2 ∧ (rIt S nl lz du t).1 + (cnt5 (kIt t S).2.2.1 + (kIt t S).2.1) = M ∧ (rIt S nl lz du t).2.2.1 = du ∧ lG L (rIt S nl lz du t).1 (rIt S nl lz du t).2.1 ∧ lFr (rIt S nl lz du t).2.1 ∧
    ((rIt S nl lz du t).2.2.2 = 0 → faI S t = -1) ∧ (0 < (rIt S nl lz du t).2.2.2 → faI S t = ((rIt S nl lz du t).2.1 ((rIt S nl lz du t).1 - 1)).2.2.1 2 ∧ ¬ faI S t = -1)
  | 0 => ⟨rfl, hM, rfl, hl, hf, fun _ => rfl, fun q => absurd q (Nat.lt_irrefl 0)⟩
  | t + 1 => by
    obtain ⟨i1, i2, i3, i4, i5, i6, i7⟩ := rIt_ok (du := du) hw h hM hM12 hl hf t
    have hN := kN_it hw h t
    have hc := cnt_st hN
    have ek : kst (kIt t S) = kIt (t + 1) S := rfl
    rw [ek] at hc
    have eF : faI S (t + 1) = if kmR ((kIt t S).1 2) (kIt t S).2.2.1 = 0 then faI S t else (kIt (t + 1) S).2.2.2.2.1.1 2 := rfl
    rw [rIt_s, eF]
    unfold outN at hc
    by_cases q : kmR ((kIt t S).1 2) (kIt t S).2.2.1 = 0
    · rw [if_pos q] at hc
      rw [if_pos q, if_pos q]
      exact ⟨i1, by omega, i3, i4, i5, i6, i7⟩
    · rw [if_neg q] at hc
      rw [if_neg q, if_neg q]
      have hlt : (rIt S nl lz du t).1 < 12 := by omega
      have eN : stN (rIt S nl lz du t).1 = (rIt S nl lz du t).1 + 1 := if_pos hlt
      have eL : stL (rIt S nl lz du t).1 (rIt S nl lz du t).2.1 (kIt (t + 1) S).2.2.2.2.1 = va_up (rIt S nl lz du t).2.1 (rIt S nl lz du t).1 (stoL ((rIt S nl lz du t).2.1 (rIt S nl lz du t).1) (kIt (t + 1) S).2.2.2.2.1) := if_pos hlt
      have eD : stD (rIt S nl lz du t).1 (rIt S nl lz du t).2.2.1 = (rIt S nl lz du t).2.2.1 := if_pos hlt
      have hy := kN_out hN q
      rw [ek] at hy
      dsimp only
      rw [eN, eL, eD]
      refine ⟨by omega, by omega, i3, fun j hj => ?_, fun j hj => ?_, fun z => absurd z (by omega), fun _ => ?_⟩
      · by_cases e : j = (rIt S nl lz du t).1
        · rw [e, va_up_eq]
          exact lmE_c (chCopy_e _ _) hy.2
        · rw [va_up_ne _ _ e]
          exact i4 j (by omega)
      · by_cases e : j = (rIt S nl lz du t).1
        · rw [e, va_up_eq]
          exact i5 _ (by omega)
        · rw [va_up_ne _ _ e]
          exact i5 j hj
      · rw [Nat.add_sub_cancel, va_up_eq]
        refine ⟨rfl, ?_⟩
        obtain ⟨r, f, s, b, a, o0, o1, o2, o3, e1, e2, e3, e4, e5, p0, p1, p2, p3, c1, c2, b0, b1, b2, b3⟩ := hy.1
        rw [e2]
        intro z
        have z2 : (nI f).toInt = (-1 : Int32).toInt := by rw [z]
        rw [nI_toInt (by omega)] at z2
        have z3 : (-1 : Int32).toInt = -1 := rfl
        omega
theorem rIt_c {S S' : KS} {nl : Nat} {lz lz' : Nat → LV} {du du' : Int32} (h : kEq S S') (hl : lEq nl lz lz') : ∀ t, (rIt S nl lz du t).1 = (rIt S' nl lz' du' t).1 ∧ (rIt S nl lz du t).2.2.2 = (rIt S' nl lz' du' t).2.2.2 ∧ lEq (rIt S nl lz du t).1 (rIt S nl lz du t).2.1 (rIt S' nl lz' du' t).2.1
  | 0 => ⟨rfl, rfl, hl⟩
  | t + 1 => by
    obtain ⟨i1, i2, i3⟩ := rIt_c (du := du) (du' := du') h hl t
    have e := kmR_c (kEq_it h t)
    rw [rIt_s, rIt_s]
    by_cases q : kmR ((kIt t S).1 2) (kIt t S).2.2.1 = 0
    · rw [if_pos q, if_pos (e.symm.trans q)]
      exact ⟨i1, i2, i3⟩
    · rw [if_neg q, if_neg (fun z => q (e.trans z))]
      have hy := kmY_c (kEq_it h t) q
      dsimp only
      refine ⟨by rw [i1], by rw [i2], ?_⟩
      rw [← i1]
      by_cases hlt : (rIt S nl lz du t).1 < 12
      · have eN : stN (rIt S nl lz du t).1 = (rIt S nl lz du t).1 + 1 := if_pos hlt
        unfold stL
        rw [eN, if_pos hlt, if_pos hlt]
        refine ⟨fun j hj => ?_, fun j hj => ?_⟩
        · by_cases z : j = (rIt S nl lz du t).1
          · rw [z, va_up_eq, va_up_eq]
            exact i3.1 _ (by omega)
          · rw [va_up_ne _ _ z, va_up_ne _ _ z]
            exact i3.1 j hj
        · by_cases z : j = (rIt S nl lz du t).1
          · rw [z, va_up_eq, va_up_eq]
            exact cEq_tr (chCopy_e _ _) (cEq_tr hy (cEq_sy (chCopy_e _ _)))
          · rw [va_up_ne _ _ z, va_up_ne _ _ z]
            exact i3.2 j (by omega)
      · have eN : stN (rIt S nl lz du t).1 = (rIt S nl lz du t).1 := if_neg hlt
        unfold stL
        rw [eN, if_neg hlt, if_neg hlt]
        exact i3
/-- one step more -/
theorem rIt_1 {S : KS} {nl : Nat} {lz : Nat → LV} {du : Int32} (t : Nat) : (rIt (kIt t S) (rIt S nl lz du t).1 (rIt S nl lz du t).2.1 (rIt S nl lz du t).2.2.1 1).1 = (rIt S nl lz du (t + 1)).1 ∧ (rIt (kIt t S) (rIt S nl lz du t).1 (rIt S nl lz du t).2.1 (rIt S nl lz du t).2.2.1 1).2.1 = (rIt S nl lz du (t + 1)).2.1 ∧ (rIt (kIt t S) (rIt S nl lz du t).1 (rIt S nl lz du t).2.1 (rIt S nl lz du t).2.2.1 1).2.2.1 = (rIt S nl lz du (t + 1)).2.2.1 ∧ (rIt S nl lz du t).2.2.2 + (rIt (kIt t S) (rIt S nl lz du t).1 (rIt S nl lz du t).2.1 (rIt S nl lz du t).2.2.1 1).2.2.2 = (rIt S nl lz du (t + 1)).2.2.2 := by
  have e1 : rIt (kIt t S) (rIt S nl lz du t).1 (rIt S nl lz du t).2.1 (rIt S nl lz du t).2.2.1 1 = if kmR ((kIt t S).1 2) (kIt t S).2.2.1 = 0 then ((rIt S nl lz du t).1, (rIt S nl lz du t).2.1, (rIt S nl lz du t).2.2.1, 0) else (stN (rIt S nl lz du t).1, stL (rIt S nl lz du t).1 (rIt S nl lz du t).2.1 (kIt (t + 1) S).2.2.2.2.1, stD (rIt S nl lz du t).1 (rIt S nl lz du t).2.2.1, 0 + 1) := rfl
  rw [e1, rIt_s]
  by_cases q : kmR ((kIt t S).1 2) (kIt t S).2.2.1 = 0
  · rw [if_pos q, if_pos q]
    exact ⟨rfl, rfl, rfl, Nat.add_zero _⟩
  · rw [if_neg q, if_neg q]
    exact ⟨rfl, rfl, rfl, rfl⟩
/-- what one told of a ring that falls -/
theorem fall_ok {S : KS} {k fl : Nat} {r : Int32} (hn : S.2.1 ≤ 3) (hl : lfR S k r) (h0 : ¬ S.1 2 = 0) (hk : 1 ≤ k) (hfl : fl ≤ 9) (hw : S.1 4 < (kIt k (setF (nI fl) S)).1 4) : ¬ r < 0 ∧ ¬ nI fl < r := by
  have key : ¬ wfE S k fl 0 := by
    rintro ⟨Z, -, e⟩
    obtain ⟨k, rfl⟩ : ∃ k1, k = k1 + 1 := ⟨k - 1, by omega⟩
    have e2 := (kEq_it (trS_e (Z := Z) (f := nI fl) hn) (k + 1)).1 4 (by decide)
    rw [wfI_1 (by rw [e2]; exact hw)] at e
    exact absurd e (by decide)
  rcases hl with ⟨e, -⟩ | ⟨-, ⟨y, hy, rfl, -, h3⟩ | ⟨rfl, h3⟩⟩
  · exact absurd e h0
  · refine ⟨nI_pos (by omega), fun q => ?_⟩
    exact key (h3 fl (nlt q))
  · exact absurd (h3 fl (by omega)) key
