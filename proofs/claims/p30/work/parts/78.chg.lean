/-! ===== making a charge: what it has ===== -/
theorem rfN_0 {e : Nat → Nat} : rfN 0 e = fun _ => none := funext fun i => if_neg (Nat.not_lt_zero i)
theorem tsF_s (f g h w : Nat → Int32) (i : Nat) : tsF f g h w (i + 1) = if 0 < g i - h i then ((tsF f g h w i).1 + 1, upd (tsF f g h w i).2.1 (tsF f g h w i).1 (f i), upd (tsF f g h w i).2.2.1 (tsF f g h w i).1 (g i - h i), upd (tsF f g h w i).2.2.2 (f i).toNatClampNeg ((tsF f g h w i).2.2.2 (f i).toNatClampNeg + h i)) else ((tsF f g h w i).1, (tsF f g h w i).2.1, (tsF f g h w i).2.2.1, upd (tsF f g h w i).2.2.2 (f i).toNatClampNeg ((tsF f g h w i).2.2.2 (f i).toNatClampNeg + h i)) := rfl
theorem tsF_skip {f g h w : Nat → Int32} {i : Nat} (hs : ¬ 0 < g i - h i) : (tsF f g h w (i + 1)).1 = (tsF f g h w i).1 ∧ (tsF f g h w (i + 1)).2.1 = (tsF f g h w i).2.1 ∧ (tsF f g h w (i + 1)).2.2.1 = (tsF f g h w i).2.2.1 := by
  rw [tsF_s, if_neg hs]
  exact ⟨rfl, rfl, rfl⟩
theorem tsF_take {f g h w : Nat → Int32} {i : Nat} (hs : 0 < g i - h i) : (tsF f g h w (i + 1)).1 = (tsF f g h w i).1 + 1 ∧ (tsF f g h w (i + 1)).2.1 = upd (tsF f g h w i).2.1 (tsF f g h w i).1 (f i) ∧ (tsF f g h w (i + 1)).2.2.1 = upd (tsF f g h w i).2.2.1 (tsF f g h w i).1 (g i - h i) := by
  rw [tsF_s, if_pos hs]
  exact ⟨rfl, rfl, rfl⟩
theorem tsF_w {f g h h' w w' : Nat → Int32} : ∀ {n : Nat}, (∀ j, j < n → h j = h' j) → (tsF f g h w n).1 = (tsF f g h' w' n).1 ∧ (tsF f g h w n).2.1 = (tsF f g h' w' n).2.1 ∧ (tsF f g h w n).2.2.1 = (tsF f g h' w' n).2.2.1
  | 0, _ => ⟨rfl, rfl, rfl⟩
  | n + 1, hh => by
    obtain ⟨i1, i2, i3⟩ := tsF_w (f := f) (g := g) (w := w) (w' := w') (n := n) (fun j hj => hh j (by omega))
    have e := hh n (by omega)
    by_cases q : 0 < g n - h n
    · have q' : 0 < g n - h' n := by rw [← e]; exact q
      obtain ⟨a1, a2, a3⟩ := tsF_take (f := f) (w := w) q
      obtain ⟨b1, b2, b3⟩ := tsF_take (f := f) (w := w') q'
      rw [a1, a2, a3, b1, b2, b3, i1, i2, i3, e]
      exact ⟨rfl, rfl, rfl⟩
    · have q' : ¬ 0 < g n - h' n := by rw [← e]; exact q
      obtain ⟨a1, a2, a3⟩ := tsF_skip (f := f) (w := w) q
      obtain ⟨b1, b2, b3⟩ := tsF_skip (f := f) (w := w') q'
      rw [a1, a2, a3, b1, b2, b3]
      exact ⟨i1, i2, i3⟩
/-- the charge's parts of the blocks -/
theorem tsF_p (f g h w : Nat → Int32) (i : Nat) : (tsF f g h w (i + 1)).2.2.2 = upd (tsF f g h w i).2.2.2 (f i).toNatClampNeg ((tsF f g h w i).2.2.2 (f i).toNatClampNeg + h i) := by
  rw [tsF_s]
  split <;> rfl
theorem tsF_pc {f f' g g' h h' w w' : Nat → Int32} : ∀ {n : Nat}, (∀ j, j < n → h j = h' j ∧ f j = f' j) → (∀ k, k < 6 → w k = w' k) → (∀ j, j < n → ∃ v : Nat, v < 4 ∧ f j = nI v) → ∀ k, k < 6 → (tsF f g h w n).2.2.2 k = (tsF f' g' h' w' n).2.2.2 k
  | 0, _, hw, _, k, hk => hw k hk
  | n + 1, hh, hw, hf, k, hk => by
    have ih := tsF_pc (g := g) (g' := g') (n := n) (fun j hj => hh j (by omega)) hw (fun j hj => hf j (by omega))
    obtain ⟨e1, e2⟩ := hh n (by omega)
    obtain ⟨v, hv, ev⟩ := hf n (by omega)
    rw [tsF_p, tsF_p, ← e1, ← e2, ev, nI_clamp (by omega)]
    by_cases q : k = v
    · rw [q, pk_us, pk_us, ih v (by omega)]
    · rw [pk_un q, pk_un q]
      exact ih k hk
theorem tsF_p0 {f g h w : Nat → Int32} : ∀ {n : Nat}, (∀ j, j < n → ∃ v : Nat, v < 4 ∧ f j = nI v) → ∀ k, 4 ≤ k → (tsF f g h w n).2.2.2 k = w k
  | 0, _, k, _ => rfl
  | n + 1, hf, k, hk => by
    obtain ⟨v, hv, ev⟩ := hf n (by omega)
    rw [tsF_p, ev, nI_clamp (by omega), pk_un (by omega)]
    exact tsF_p0 (fun j hj => hf j (by omega)) k hk
theorem lmS_up {L W : Nat → Int32} {v : Nat} {x : Int32} (hv : v < 4) : lmS L (upd W v (W v + x)) 4 = lmS L W 4 + x * L v := by
  match v, hv with
  | 0, _ => show 0 + (W 0 + x) * L 0 + W 1 * L 1 + W 2 * L 2 + W 3 * L 3 = 0 + W 0 * L 0 + W 1 * L 1 + W 2 * L 2 + W 3 * L 3 + x * L 0; rw [Int32.add_mul]; simp only [Int32.add_assoc, Int32.zero_add]; congr 1; rw [Int32.add_comm (x * L 0)]; simp only [Int32.add_assoc]
  | 1, _ => show 0 + W 0 * L 0 + (W 1 + x) * L 1 + W 2 * L 2 + W 3 * L 3 = 0 + W 0 * L 0 + W 1 * L 1 + W 2 * L 2 + W 3 * L 3 + x * L 1; rw [Int32.add_mul]; simp only [Int32.add_assoc, Int32.zero_add]; congr 2; rw [Int32.add_comm (x * L 1)]; simp only [Int32.add_assoc]
  | 2, _ => show 0 + W 0 * L 0 + W 1 * L 1 + (W 2 + x) * L 2 + W 3 * L 3 = 0 + W 0 * L 0 + W 1 * L 1 + W 2 * L 2 + W 3 * L 3 + x * L 2; rw [Int32.add_mul]; simp only [Int32.add_assoc, Int32.zero_add]; congr 3; rw [Int32.add_comm (x * L 2)]
  | 3, _ => show 0 + W 0 * L 0 + W 1 * L 1 + W 2 * L 2 + (W 3 + x) * L 3 = 0 + W 0 * L 0 + W 1 * L 1 + W 2 * L 2 + W 3 * L 3 + x * L 3; rw [Int32.add_mul]; simp only [Int32.add_assoc, Int32.zero_add]
/-- the lime of what is cut is that of its parts -/
theorem ts_lime {L bzL f g h w : Nat → Int32} {bz : Nat → BV} {cm : Nat → Int32} (hL : ∀ i, i < 4 → L i = (bz i).2.2 0) : ∀ {n : Nat}, (∀ j, j < n → ∃ v : Nat, v < 4 ∧ f j = nI v ∧ ¬ (bz v).2.1 = 0) → (∀ k, k < 6 → w k = 0) → lmS L (tsF f g h w n).2.2.2 4 = mcF bz f h cm n 0
  | 0, _, hw => by
    show 0 + w 0 * L 0 + w 1 * L 1 + w 2 * L 2 + w 3 * L 3 = mxClear cm 0
    rw [hw 0 (by decide), hw 1 (by decide), hw 2 (by decide), hw 3 (by decide), mxClear_k 0 (by decide)]
    simp only [Int32.zero_mul, Int32.add_zero]
  | n + 1, hf, hw => by
    obtain ⟨v, hv, ev, hk⟩ := hf n (by omega)
    have ih := ts_lime (L := L) (bzL := bzL) (g := g) (h := h) (cm := cm) hL (n := n) (fun j hj => hf j (by omega)) hw
    show lmS L (tsF f g h w (n + 1)).2.2.2 4 = mxStone (mcF bz f h cm n) (bkOx (bz (f n).toNatClampNeg)) (h n) 0
    rw [tsF_p, mxStone_k 0 (by decide), ev, nI_clamp (by omega), lmS_up hv, ih, hL v hv]
    congr 2
    exact (if_neg hk).symm
/-- the oxides of what is cut, as numbers -/
theorem mc_nat {bz : Nat → BV} {f h cm : Nat → Int32} {e : Nat → Nat} : ∀ {n : Nat}, (∀ j, j < n → ∃ v : Nat, v < 4 ∧ f j = nI v ∧ ∀ k, k < 4 → ∃ w : Nat, w ≤ 9 ∧ bkOx (bz v) k = nI w) → (∀ j, j < n → h j = nI (e j)) → ∀ k, k < 4 → ∃ o : Nat, o ≤ 9 * nsm e n ∧ mcF bz f h cm n k = nI o
  | 0, _, _, k, hk => ⟨0, Nat.zero_le _, mxClear_k k hk⟩
  | n + 1, hf, hh, k, hk => by
    obtain ⟨v, hv, ev, hx⟩ := hf n (by omega)
    obtain ⟨w, hw, ew⟩ := hx k hk
    obtain ⟨o, ho, eo⟩ := mc_nat (cm := cm) (n := n) (fun j hj => hf j (by omega)) (fun j hj => hh j (by omega)) k hk
    refine ⟨o + e n * w, ?_, ?_⟩
    · have : e n * w ≤ e n * 9 := Nat.mul_le_mul_left _ hw
      show o + e n * w ≤ 9 * (nsm e n + e n)
      omega
    · show mxStone (mcF bz f h cm n) (bkOx (bz (f n).toNatClampNeg)) (h n) k = _
      rw [mxStone_k k hk, ev, nI_clamp (by omega), eo, ew, hh n (by omega), pk_mul, nI_add]
theorem cgF_nat {bz : Nat → BV} {f g h cm : Nat → Int32} {p : Nat → Nat} {n c a b d : Nat} (hly : lyOk 4 n f g p) (hx : ∀ i, i < 4 → ∀ k, k < 4 → ∃ w : Nat, w ≤ 9 ∧ bkOx (bz i) k = nI w) (hc1 : 1 ≤ c) (hc9 : c ≤ 9) (hcP : c ≤ nsm p n) (ha : a ≤ 3) (hb : b ≤ 3) (hd : d ≤ 3) : ∀ k, k < 4 → ∃ o : Nat, o ≤ 117 ∧ cgF bz f g h cm n c (nI a) (nI b) (nI d) k = nI o := by
  obtain ⟨hn, hf, hg, hp⟩ := hly
  have hb9 := nsm_b hp
  have hs := soAll_nat (h := h) (K := c) hg hp (by omega) (by omega) hc9 hcP
  have hsum := (cutN_I (p := p) (n := n) (K := c) (by omega) hcP).2.1
  intro k hk
  obtain ⟨o, ho, eo⟩ := mc_nat (cm := cm) (n := n) (fun j hj => by obtain ⟨v, hv, ev⟩ := hf j hj; exact ⟨v, hv, ev, hx v hv⟩) hs k hk
  rw [hsum] at ho
  unfold cgF
  match k, hk with
  | 0, _ => exact ⟨o, by omega, eo⟩
  | 1, _ =>
    refine ⟨o + (9 * a + 3 * b), by omega, ?_⟩
    show mcF bz f (soAll g h n c) cm n 1 + (9 * nI a + 3 * nI b) = _
    rw [eo, show (9 : Int32) * nI a = nI (9 * a) from pk_mul 9 a, show (3 : Int32) * nI b = nI (3 * b) from pk_mul 3 b, nI_add, nI_add]
  | 2, _ =>
    refine ⟨o + 6 * b, by omega, ?_⟩
    show mcF bz f (soAll g h n c) cm n 2 + 6 * nI b = _
    rw [eo, show (6 : Int32) * nI b = nI (6 * b) from pk_mul 6 b, nI_add]
  | 3, _ =>
    refine ⟨o + 9 * d, by omega, ?_⟩
    show mcF bz f (soAll g h n c) cm n 3 + 9 * nI d = _
    rw [eo, show (9 : Int32) * nI d = nI (9 * d) from pk_mul 9 d, nI_add]
theorem mxCopy_k {F b : Nat → Int32} : ∀ k, k < 4 → mxCopy b F k = F k := fun k hk => by
  match k, hk with
  | 0, _ => rfl
  | 1, _ => rfl
  | 2, _ => rfl
  | 3, _ => rfl
theorem ze6_k {F : Nat → Int32} : ∀ k, k < 6 → ze6 F k = 0 := fun k hk => by
  match k, hk with
  | 0, _ => rfl
  | 1, _ => rfl
  | 2, _ => rfl
  | 3, _ => rfl
  | 4, _ => rfl
  | 5, _ => rfl
/-- the new charge is as its parts are -/
theorem cgV_good {L : Nat → Int32} {bz : Nat → BV} {f g h cm : Nat → Int32} {p : Nat → Nat} {n c a b d : Nat} {y : CV} (hly : lyOk 4 n f g p) (hkn : ∀ j, j < n → ∃ v : Nat, v < 4 ∧ f j = nI v ∧ ¬ (bz v).2.1 = 0) (hx : ∀ i, i < 4 → ∀ k, k < 4 → ∃ w : Nat, w ≤ 9 ∧ bkOx (bz i) k = nI w) (hL : ∀ i, i < 4 → L i = (bz i).2.2 0) (hc1 : 1 ≤ c) (hc9 : c ≤ 9) (hcP : c ≤ nsm p n) (ha : a ≤ 3) (hb : b ≤ 3) (hd : d ≤ 3) : (cgV f g h n c y (cgF bz f g h cm n c (nI a) (nI b) (nI d))).1 0 = 1 ∧ chG L (cgV f g h n c y (cgF bz f g h cm n c (nI a) (nI b) (nI d))) := by
  have hF := cgF_nat (h := h) (cm := cm) hly hx hc1 hc9 hcP ha hb hd
  obtain ⟨o0, k0, e0⟩ := hF 0 (by decide)
  obtain ⟨o1, k1, e1⟩ := hF 1 (by decide)
  obtain ⟨o2, k2, e2⟩ := hF 2 (by decide)
  obtain ⟨o3, k3, e3⟩ := hF 3 (by decide)
  refine ⟨rfl, ⟨o0, 0, o1, 0, 0, o0, o1, o2, o3, ?_, rfl, ?_, rfl, rfl, ?_, ?_, ?_, ?_, by omega, by omega, by omega, by omega, by omega, by omega⟩, ?_⟩
  · exact (mxCopy_k (b := y.2.1) (F := cgF bz f g h cm n c (nI a) (nI b) (nI d)) 0 (by decide)).trans e0
  · exact (mxCopy_k (b := y.2.1) (F := cgF bz f g h cm n c (nI a) (nI b) (nI d)) 1 (by decide)).trans e1
  · exact (mxCopy_k (b := y.2.1) (F := cgF bz f g h cm n c (nI a) (nI b) (nI d)) 0 (by decide)).trans e0
  · exact (mxCopy_k (b := y.2.1) (F := cgF bz f g h cm n c (nI a) (nI b) (nI d)) 1 (by decide)).trans e1
  · exact (mxCopy_k (b := y.2.1) (F := cgF bz f g h cm n c (nI a) (nI b) (nI d)) 2 (by decide)).trans e2
  · exact (mxCopy_k (b := y.2.1) (F := cgF bz f g h cm n c (nI a) (nI b) (nI d)) 3 (by decide)).trans e3
  · show lmS L (tsF f g (soAll g h n c) (ze6 y.2.2) n).2.2.2 4 = mxCopy y.2.1 (cgF bz f g h cm n c (nI a) (nI b) (nI d)) 0
    rw [mxCopy_k (F := cgF bz f g h cm n c (nI a) (nI b) (nI d)) 0 (by decide)]
    show _ = mcF bz f (soAll g h n c) cm n 0
    exact ts_lime (bzL := L) hL hkn (fun k hk => ze6_k k hk)
theorem cgF_c {nb n c : Nat} {bz bz' : Nat → BV} {f f' g g' h h' cm cm' : Nat → Int32} {a b d : Int32} {p : Nat → Nat} (hnb : nb ≤ 6) (hly : lyOk nb n f g p) (hb : bEq nb bz bz') (hfg : ∀ j, j < n → f j = f' j ∧ g j = g' j) (hc1 : 1 ≤ c) (hc9 : c ≤ 9) (hcP : c ≤ nsm p n) : ∀ k, k < 4 → cgF bz f g h cm n c a b d k = cgF bz' f' g' h' cm' n c a b d k := by
  obtain ⟨hn, hf, hg, hp⟩ := hly
  unfold cgF
  exact mxBins_c (mcF_c hb (fun j hj => ⟨(hfg j hj).1, hf j hj⟩) hnb (soAll_c hn hg hp (fun j hj => (hfg j hj).2) hc9 (by omega) hcP))
/-- two works told alike make it alike -/
theorem cgV_c {n c : Nat} {bz bz' : Nat → BV} {f f' g g' h h' cm cm' : Nat → Int32} {a b d : Int32} {p : Nat → Nat} {y y' : CV} (hly : lyOk 4 n f g p) (hb : bEq 4 bz bz') (hfg : ∀ j, j < n → f j = f' j ∧ g j = g' j) (hc1 : 1 ≤ c) (hc9 : c ≤ 9) (hcP : c ≤ nsm p n) : cEq (cgV f g h n c y (cgF bz f g h cm n c a b d)) (cgV f' g' h' n c y' (cgF bz' f' g' h' cm' n c a b d)) := by
  have hF := cgF_c (h := h) (h' := h') (cm := cm) (cm' := cm') (a := a) (b := b) (d := d) (by omega) hly hb hfg hc1 hc9 hcP
  obtain ⟨hn, hf, hg, hp⟩ := hly
  refine ⟨fun k hk => ?_, fun k hk => ?_, fun k hk => ?_⟩
  · have e0 := (mxCopy_k (b := y.2.1) 0 (by decide)).trans ((hF 0 (by decide)).trans (mxCopy_k (b := y'.2.1) 0 (by decide)).symm)
    have e1 := (mxCopy_k (b := y.2.1) 1 (by decide)).trans ((hF 1 (by decide)).trans (mxCopy_k (b := y'.2.1) 1 (by decide)).symm)
    match k, hk with
    | 0, _ => rfl
    | 1, _ => exact e0
    | 2, _ => rfl
    | 3, _ => exact e1
    | 4, _ => rfl
    | 5, _ => rfl
  · show mxCopy y.2.1 _ k = mxCopy y'.2.1 _ k
    rw [mxCopy_k k hk, mxCopy_k k hk]
    exact hF k hk
  · show (tsF f g (soAll g h n c) (ze6 y.2.2) n).2.2.2 k = (tsF f' g' (soAll g' h' n c) (ze6 y'.2.2) n).2.2.2 k
    exact tsF_pc (fun j hj => ⟨soAll_c hn hg hp (fun j hj => (hfg j hj).2) hc9 (by omega) hcP j hj, (hfg j hj).1⟩) (fun k hk => by rw [ze6_k k hk, ze6_k k hk]) hf k hk
/-- the layers that are left -/
theorem cgT_e {n c : Nat} {f g h : Nat → Int32} {p : Nat → Nat} {y : CV} {F : Nat → Int32} (hn : n ≤ 8) (hg : ∀ j, j < n → g j = nI (p j)) (hp : ∀ j, j < n → p j ≤ 200) (hc1 : 1 ≤ c) (hc9 : c ≤ 9) (hcP : c ≤ nsm p n) : (cgT f g h n c y F).1 = (tsF f g (fun j => nI (cutN p n c j)) (fun _ => 0) n).1 ∧ (cgT f g h n c y F).2.1 = (tsF f g (fun j => nI (cutN p n c j)) (fun _ => 0) n).2.1 ∧ (cgT f g h n c y F).2.2.1 = (tsF f g (fun j => nI (cutN p n c j)) (fun _ => 0) n).2.2.1 := by
  have hb9 := nsm_b hp
  exact tsF_w (soAll_nat (h := h) (K := c) hg hp (by omega) (by omega) hc9 hcP)
/-- the law's own oxides are those -/
theorem oxT_mc {bl : Nat → Nat → Int32} {bz : Nat → BV} {f F h cm o0 : Nat → Int32} : ∀ {n : Nat}, (∀ j, j < n → ∃ v : Nat, v < 4 ∧ f j = nI v ∧ ¬ (bz v).2.1 = 0) → (∀ i, i < 4 → ∀ k, k < 4 → bl i (k + 1) = (bz i).2.2 k) → (∀ j, j < n → F j = h j) → ∀ k, k < 4 → oxT bl f F o0 n k = mcF bz f h cm n k + o0 k
  | 0, _, _, _, k, hk => by
    show o0 k = mxClear cm k + o0 k
    rw [mxClear_k k hk, Int32.zero_add]
  | n + 1, hf, hx, hF, k, hk => by
    obtain ⟨v, hv, ev, hkn⟩ := hf n (by omega)
    have ih := oxT_mc (o0 := o0) (h := h) (cm := cm) (n := n) (fun j hj => hf j (by omega)) hx (fun j hj => hF j (by omega)) k hk
    show mxStone (oxT bl f F o0 n) (fun o => bl (f n).toNatClampNeg (o + 1)) (F n) k = mxStone (mcF bz f h cm n) (bkOx (bz (f n).toNatClampNeg)) (h n) k + o0 k
    rw [mxStone_k k hk, mxStone_k k hk, ev, nI_clamp (by omega), ih, hF n (by omega), hx v hv k hk, show bkOx (bz v) k = (bz v).2.2 k from if_neg hkn, Int32.add_assoc, Int32.add_assoc, Int32.add_comm (o0 k)]
theorem ox4_k {a b d : Int32} {F : Nat → Int32} : ∀ k, k < 4 → F k + ox4 a b d k = mxBins F a b d k := fun k hk => by
  match k, hk with
  | 0, _ => exact Int32.add_zero _
  | 1, _ => rfl
  | 2, _ => rfl
  | 3, _ => rfl
theorem sat_ok {bl : Nat → Nat → Int32} {bz : Nat → BV} {f g h cm F : Nat → Int32} {p : Nat → Nat} {n c : Nat} {a b d : Int32} {y : CV} (hn : n ≤ 8) (hg : ∀ j, j < n → g j = nI (p j)) (hp : ∀ j, j < n → p j ≤ 200) (hkn : ∀ j, j < n → ∃ v : Nat, v < 4 ∧ f j = nI v ∧ ¬ (bz v).2.1 = 0) (hx : tX bz bl) (hF : ∀ j, j < n → F j = nI (cutN p n c j)) (hc1 : 1 ≤ c) (hc9 : c ≤ 9) (hcP : c ≤ nsm p n) : mxSat (chBegin y (cgF bz f g h cm n c a b d)).2.1 = mxSat (oxT bl f F (ox4 a b d) n) := by
  have hb9 := nsm_b hp
  have hs := soAll_nat (h := h) (K := c) hg hp (by omega) (by omega) hc9 hcP
  refine (mixR_c (fun k hk => ?_)).1
  show mxCopy y.2.1 (cgF bz f g h cm n c a b d) k = _
  rw [mxCopy_k k hk, oxT_mc (h := soAll g h n c) (cm := cm) hkn (fun i hi k hk => (hx i hi k hk).1) (fun j hj => (hF j hj).trans (hs j hj).symm) k hk, ox4_k k hk]
  rfl
/-- what is left in the layers, as numbers; how much it is -/
theorem ts_left {f g : Nat → Int32} {p e : Nat → Nat} : ∀ {n : Nat}, (∀ j, j < n → ∃ v : Nat, v < 4 ∧ f j = nI v) → (∀ j, j < n → g j = nI (p j)) → (∀ j, j < n → e j ≤ p j ∧ p j ≤ 200) → ∃ p' : Nat → Nat, (tsF f g (fun j => nI (e j)) (fun _ => 0) n).1 ≤ n ∧ ∀ j, j < (tsF f g (fun j => nI (e j)) (fun _ => 0) n).1 → (∃ i, i < n ∧ (tsF f g (fun j => nI (e j)) (fun _ => 0) n).2.1 j = f i) ∧ (tsF f g (fun j => nI (e j)) (fun _ => 0) n).2.2.1 j = nI (p' j) ∧ p' j ≤ 200
  | 0, _, _, _ => ⟨fun _ => 0, Nat.le_refl 0, fun j hj => absurd hj (Nat.not_lt_zero j)⟩
  | n + 1, hf, hg, he => by
    obtain ⟨p', h1, h2⟩ := ts_left (f := f) (g := g) (n := n) (fun j hj => hf j (by omega)) (fun j hj => hg j (by omega)) (fun j hj => he j (by omega))
    obtain ⟨k1, k2⟩ := he n (by omega)
    by_cases q : 0 < g n - (fun j => nI (e j)) n
    · obtain ⟨a1, a2, a3⟩ := tsF_take (f := f) (g := g) (h := fun j => nI (e j)) (w := fun _ => 0) q
      refine ⟨va_up p' (tsF f g (fun j => nI (e j)) (fun _ => 0) n).1 (p n - e n), by rw [a1]; omega, fun j hj => ?_⟩
      rw [a1] at hj
      rw [a2, a3]
      by_cases z : j = (tsF f g (fun j => nI (e j)) (fun _ => 0) n).1
      · rw [z, pk_us, pk_us, va_up_eq]
        refine ⟨⟨n, by omega, rfl⟩, ?_, by omega⟩
        show g n - nI (e n) = _
        rw [hg n (by omega), pk_sub k1]
      · rw [pk_un z, pk_un z, va_up_ne _ _ z]
        obtain ⟨⟨i, hi, ei⟩, b1, b2⟩ := h2 j (by omega)
        exact ⟨⟨i, by omega, ei⟩, b1, b2⟩
    · obtain ⟨a1, a2, a3⟩ := tsF_skip (f := f) (g := g) (h := fun j => nI (e j)) (w := fun _ => 0) q
      refine ⟨p', by rw [a1]; omega, fun j hj => ?_⟩
      rw [a1] at hj
      rw [a2, a3]
      obtain ⟨⟨i, hi, ei⟩, b1, b2⟩ := h2 j (by omega)
      exact ⟨⟨i, by omega, ei⟩, b1, b2⟩
