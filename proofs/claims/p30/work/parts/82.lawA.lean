/-! ===== what holds as the law goes round ===== -/
def L9 (bz : Nat → BV) : Nat → Int32 := fun i => (bz i).2.2 0
def lwI (bz bz' : Nat → BV) (bl : Nat → Nat → Int32) (n : Nat) (f g f' g' : Nat → Int32) (p : Nat → Nat) (lx : Nat → Nat → Int32) (S S' : KS) (nl : Nat) (lz lz' : Nat → LV) (M : Nat) : Prop :=
  (lyOk 4 n f g p ∧ (∀ j, j < n → ∃ v : Nat, v < 4 ∧ f j = nI v ∧ ¬ (bz v).2.1 = 0) ∧ (∀ j, j < n → lx j 0 = f j ∧ lx j 1 = g j) ∧ ∀ j, j < n → f j = f' j ∧ g j = g' j) ∧ (bEq 4 bz bz' ∧ tX bz bl ∧ (∀ j, j < 6 → (bz j).2.1 = 0 ∨ (bz j).2.1 = 1) ∧ ∀ j, j < 6 → (bz' j).2.1 = 0 ∨ (bz' j).2.1 = 1) ∧ (kEq S S' ∧ kwf S ∧ kwf S' ∧ kN (L9 bz) S ∧ ∃ a : Nat, a ≤ 999 ∧ S.1 1 = nI a) ∧ lEq nl lz lz' ∧ lFr lz ∧ lG (L9 bz) nl lz ∧ nl + (cnt5 S.2.2.1 + S.2.1) = M ∧ M ≤ 12
theorem lw_ok {bz bz' : Nat → BV} {bl : Nat → Nat → Int32} {n : Nat} {f g f' g' : Nat → Int32} {p : Nat → Nat} {lx : Nat → Nat → Int32} {S S' : KS} {nl : Nat} {lz lz' : Nat → LV} {M : Nat} (h : lwI bz bz' bl n f g f' g' p lx S S' nl lz lz' M) : wOk 4 bz n f g S nl ∧ wOk 4 bz' n f' g' S' nl := by
  obtain ⟨⟨⟨hn, hf, hg, hp⟩, hkn, hlx, hfg⟩, ⟨hb, hX, k1, k2⟩, ⟨hS, w1, w2, hN, ha⟩, hl, hlf, hlG, hM, hM12⟩ := h
  exact ⟨⟨by decide, hn, hf, k1, w1, by omega⟩, ⟨by decide, hn, fun j hj => by rw [← (hfg j hj).1]; exact hf j hj, k2, w2, by omega⟩⟩
theorem tsF_fc {f f' g g' h w w' : Nat → Int32} : ∀ {n : Nat}, (∀ j, j < n → f j = f' j ∧ g j = g' j) → (tsF f g h w n).1 = (tsF f' g' h w' n).1 ∧ ∀ j, j < (tsF f g h w n).1 → (tsF f g h w n).2.1 j = (tsF f' g' h w' n).2.1 j ∧ (tsF f g h w n).2.2.1 j = (tsF f' g' h w' n).2.2.1 j
  | 0, _ => ⟨rfl, fun j hj => absurd hj (Nat.not_lt_zero j)⟩
  | n + 1, hfg => by
    obtain ⟨i1, i2⟩ := tsF_fc (h := h) (w := w) (w' := w') (n := n) (fun j hj => hfg j (by omega))
    rw [tsF_s, tsF_s, ← (hfg n (by omega)).1, ← (hfg n (by omega)).2]
    by_cases q : 0 < g n - h n
    · rw [if_pos q, if_pos q]
      refine ⟨congrArg (· + 1) i1, fun j hj => ?_⟩
      show upd (tsF f g h w n).2.1 (tsF f g h w n).1 (f n) j = upd (tsF f' g' h w' n).2.1 (tsF f' g' h w' n).1 (f n) j ∧ upd (tsF f g h w n).2.2.1 (tsF f g h w n).1 (g n - h n) j = upd (tsF f' g' h w' n).2.2.1 (tsF f' g' h w' n).1 (g n - h n) j
      rw [← i1]
      by_cases e : j = (tsF f g h w n).1
      · rw [e, pk_us, pk_us, pk_us, pk_us]
        exact ⟨rfl, rfl⟩
      · rw [pk_un e, pk_un e, pk_un e, pk_un e]
        exact i2 j (by have : j < (tsF f g h w n).1 + 1 := hj; omega)
    · rw [if_neg q, if_neg q]
      exact ⟨i1, i2⟩
theorem lw_bk {bz : Nat → BV} {bl : Nat → Nat → Int32} (hX : tX bz bl) : ∀ i, i < 4 → ∀ k, k < 4 → ∃ w : Nat, w ≤ 9 ∧ bkOx (bz i) k = nI w := fun i hi k hk => by
  by_cases e : (bz i).2.1 = 0
  · match k, hk with
    | 0, _ => exact ⟨5, by decide, (if_pos e).trans rfl⟩
    | 1, _ => exact ⟨2, by decide, (if_pos e).trans rfl⟩
    | 2, _ => exact ⟨1, by decide, (if_pos e).trans rfl⟩
    | 3, _ => exact ⟨0, by decide, (if_pos e).trans rfl⟩
  · obtain ⟨e1, w, hw, e2⟩ := hX i hi k hk
    exact ⟨w, hw, (if_neg e).trans (e1.symm.trans e2)⟩
set_option maxHeartbeats 1000000 in
theorem lw_chg {bz bz' : Nat → BV} {bl : Nat → Nat → Int32} {n : Nat} {f g f' g' : Nat → Int32} {p : Nat → Nat} {lx : Nat → Nat → Int32} {S S' : KS} {nl : Nat} {lz lz' : Nat → LV} {M : Nat} {c a b d : Nat} {h9 cm9 h8 cm8 : Nat → Int32} (h : lwI bz bz' bl n f g f' g' p lx S S' nl lz lz' M) (hc1 : 1 ≤ c) (hc9 : c ≤ 9) (hcP : c ≤ nsm p n) (ha3 : a ≤ 3) (hb3 : b ≤ 3) (hd3 : d ≤ 3) (hq3 : S.2.1 < 3) (hM1 : M < 12) : (cgT f' g' h8 n c (S'.2.2.2.1 S'.2.1) (cgF bz' f' g' h8 cm8 n c (nI a) (nI b) (nI d))).1 = (tsF f g (fun j => nI (cutN p n c j)) (fun _ => 0) n).1 ∧ ∃ p9 : Nat → Nat, ∀ lf2 : Nat → Nat → Int32, (∀ j, j < (tsF f g (fun j => nI (cutN p n c j)) (fun _ => 0) n).1 → lf2 j 0 = (tsF f g (fun j => nI (cutN p n c j)) (fun _ => 0) n).2.1 j ∧ lf2 j 1 = (tsF f g (fun j => nI (cutN p n c j)) (fun _ => 0) n).2.2.1 j) → lwI bz bz' bl ((tsF f g (fun j => nI (cutN p n c j)) (fun _ => 0) n).1) ((tsF f g (fun j => nI (cutN p n c j)) (fun _ => 0) n).2.1) ((tsF f g (fun j => nI (cutN p n c j)) (fun _ => 0) n).2.2.1) ((cgT f' g' h8 n c (S'.2.2.2.1 S'.2.1) (cgF bz' f' g' h8 cm8 n c (nI a) (nI b) (nI d))).2.1) ((cgT f' g' h8 n c (S'.2.2.2.1 S'.2.1) (cgF bz' f' g' h8 cm8 n c (nI a) (nI b) (nI d))).2.2.1) p9 lf2 ((S.1, S.2.1 + 1, S.2.2.1, va_up S.2.2.2.1 S.2.1 (cgV f g h9 n c (S.2.2.2.1 S.2.1) (cgF bz f g h9 cm9 n c (nI a) (nI b) (nI d))), S.2.2.2.2)) ((S'.1, S'.2.1 + 1, S'.2.2.1, va_up S'.2.2.2.1 S'.2.1 (cgV f' g' h8 n c (S'.2.2.2.1 S'.2.1) (cgF bz' f' g' h8 cm8 n c (nI a) (nI b) (nI d))), S'.2.2.2.2)) nl lz lz' (M + 1) := by
  obtain ⟨⟨⟨hn, hf, hg, hp⟩, hkn, hlx, hfg⟩, ⟨hb, hX, k1, k2⟩, ⟨hS, w1, w2, hN, ha⟩, hl, hlf, hlG, hM, hM12⟩ := h
  have hly : lyOk 4 n f g p := ⟨hn, hf, hg, hp⟩
  have hg' : ∀ j, j < n → g' j = nI (p j) := fun j hj => (hfg j hj).2.symm.trans (hg j hj)
  obtain ⟨e1, e2, e3⟩ := cgT_e (f := f') (g := g') (h := h8) (y := S'.2.2.2.1 S'.2.1) (F := (cgF bz' f' g' h8 cm8 n c (nI a) (nI b) (nI d))) hn hg' hp hc1 hc9 hcP
  obtain ⟨t1, t2⟩ := tsF_fc (f := f) (f' := f') (g := g) (g' := g') (h := fun j => nI (cutN p n c j)) (w := fun _ => 0) (w' := fun _ => 0) hfg
  have hle := (cutN_I (p := p) (n := n) (K := c) (by omega) hcP).1
  obtain ⟨p9, q1, q2⟩ := ts_left (f := f) (g := g) (p := p) (e := cutN p n c) (n := n) hf hg (fun j hj => ⟨hle j hj, hp j hj⟩)
  have eS := hS.2.1
  rw [e1, e2, e3]
  refine ⟨t1.symm, p9, fun lf2 hl2 => ⟨⟨⟨by omega, fun j hj => ?_, fun j hj => (q2 j hj).2.1, fun j hj => (q2 j hj).2.2⟩, fun j hj => ?_, hl2, fun j hj => t2 j hj⟩, ⟨hb, hX, k1, k2⟩, ⟨⟨hS.1, congrArg (· + 1) eS, hS.2.2.1, fun i hi => ?_, hS.2.2.2.2.1, ?_⟩, ⟨?_, fun j hj => ?_, w1.2.2.1, w1.2.2.2⟩, ⟨?_, fun j hj => ?_, w2.2.2.1, w2.2.2.2⟩, ⟨hN.1, hN.2.1, hN.2.2.1, fun i hi => ?_⟩, ha⟩, hl, hlf, hlG, ?_, by omega⟩⟩
  · obtain ⟨i, hi, ei⟩ := (q2 j hj).1
    rw [ei]
    exact hf i hi
  · obtain ⟨i, hi, ei⟩ := (q2 j hj).1
    rw [ei]
    exact hkn i hi
  · have hi2 : i < S.2.1 + 1 := hi
    show cEq (va_up S.2.2.2.1 S.2.1 (cgV f g h9 n c (S.2.2.2.1 S.2.1) (cgF bz f g h9 cm9 n c (nI a) (nI b) (nI d))) i) (va_up S'.2.2.2.1 S'.2.1 (cgV f' g' h8 n c (S'.2.2.2.1 S'.2.1) (cgF bz' f' g' h8 cm8 n c (nI a) (nI b) (nI d))) i)
    rw [← eS]
    by_cases e : i = S.2.1
    · rw [e, va_up_eq, va_up_eq]
      exact cgV_c hly hb hfg hc1 hc9 hcP
    · rw [va_up_ne _ _ e, va_up_ne _ _ e]
      exact hS.2.2.2.1 i (by omega)
  · show S.2.1 + 1 ≤ 3
    omega
  · show S.2.1 + 1 ≤ 3
    omega
  · show (va_up S.2.2.2.1 S.2.1 (cgV f g h9 n c (S.2.2.2.1 S.2.1) (cgF bz f g h9 cm9 n c (nI a) (nI b) (nI d))) j).1 0 = 0 ∨ (va_up S.2.2.2.1 S.2.1 (cgV f g h9 n c (S.2.2.2.1 S.2.1) (cgF bz f g h9 cm9 n c (nI a) (nI b) (nI d))) j).1 0 = 1
    by_cases e : j = S.2.1
    · rw [e, va_up_eq]
      exact Or.inr rfl
    · rw [va_up_ne _ _ e]
      exact w1.2.1 j hj
  · show S'.2.1 + 1 ≤ 3
    omega
  · show (va_up S'.2.2.2.1 S'.2.1 (cgV f' g' h8 n c (S'.2.2.2.1 S'.2.1) (cgF bz' f' g' h8 cm8 n c (nI a) (nI b) (nI d))) j).1 0 = 0 ∨ (va_up S'.2.2.2.1 S'.2.1 (cgV f' g' h8 n c (S'.2.2.2.1 S'.2.1) (cgF bz' f' g' h8 cm8 n c (nI a) (nI b) (nI d))) j).1 0 = 1
    by_cases e : j = S'.2.1
    · rw [e, va_up_eq]
      exact Or.inr rfl
    · rw [va_up_ne _ _ e]
      exact w2.2.1 j hj
  · have hi2 : i < S.2.1 + 1 := hi
    show (va_up S.2.2.2.1 S.2.1 (cgV f g h9 n c (S.2.2.2.1 S.2.1) (cgF bz f g h9 cm9 n c (nI a) (nI b) (nI d))) i).1 0 = 1 ∧ chG (L9 bz) (va_up S.2.2.2.1 S.2.1 (cgV f g h9 n c (S.2.2.2.1 S.2.1) (cgF bz f g h9 cm9 n c (nI a) (nI b) (nI d))) i)
    by_cases e : i = S.2.1
    · rw [e, va_up_eq]
      exact cgV_good (L := L9 bz) hly hkn (lw_bk hX) (fun i hi => rfl) hc1 hc9 hcP ha3 hb3 hd3
    · rw [va_up_ne _ _ e]
      exact hN.2.2.2 i (by omega)
  · show nl + (cnt5 S.2.2.1 + (S.2.1 + 1)) = M + 1
    omega
theorem lw_coal {bz bz' : Nat → BV} {bl : Nat → Nat → Int32} {n : Nat} {f g f' g' : Nat → Int32} {p : Nat → Nat} {lx : Nat → Nat → Int32} {S S' : KS} {nl : Nat} {lz lz' : Nat → LV} {M : Nat} {w : Nat} (h : lwI bz bz' bl n f g f' g' p lx S S' nl lz lz' M) (hw : w ≤ 80) (h9 : S.1 1 < nI 900) : lwI bz bz' bl n f g f' g' p lx (setC (S.1 1 + nI w) S) (setC (S'.1 1 + nI w) S') nl lz lz' M := by
  obtain ⟨⟨⟨hn, hf, hg, hp⟩, hkn, hlx, hfg⟩, ⟨hb, hX, k1, k2⟩, ⟨hS, w1, w2, hN, ha⟩, hl, hlf, hlG, hM, hM12⟩ := h
  obtain ⟨a, ha9, ea⟩ := ha
  have h900 : a < 900 := nlt (by rw [← ea]; exact h9)
  have e1 := hS.1 1 (by decide)
  rw [← e1]
  exact ⟨⟨⟨hn, hf, hg, hp⟩, hkn, hlx, hfg⟩, ⟨hb, hX, k1, k2⟩, ⟨setC_c hS, w1, w2, ⟨hN.1, hN.2⟩, a + w, by omega, by show S.1 1 + nI w = nI (a + w); rw [ea, nI_add]⟩, hl, hlf, hlG, hM, hM12⟩
theorem lw_in {bz bz' : Nat → BV} {bl : Nat → Nat → Int32} {n : Nat} {f g f' g' : Nat → Int32} {p : Nat → Nat} {lx : Nat → Nat → Int32} {S S' : KS} {nl : Nat} {lz lz' : Nat → LV} {M : Nat} {w : Nat} (h : lwI bz bz' bl n f g f' g' p lx S S' nl lz lz' M) (hw1 : 1 ≤ w) (hw : w ≤ 80) (h9 : S.1 1 < nI 900) : inR 1 (999 - S.1 1) (nI w) ∧ inR 1 (999 - S'.1 1) (nI w) := by
  obtain ⟨⟨⟨hn, hf, hg, hp⟩, hkn, hlx, hfg⟩, ⟨hb, hX, k1, k2⟩, ⟨hS, w1, w2, hN, ha⟩, hl, hlf, hlG, hM, hM12⟩ := h
  obtain ⟨a, ha9, ea⟩ := ha
  have h900 : a < 900 := nlt (by rw [← ea]; exact h9)
  have e1 := hS.1 1 (by decide)
  rw [← e1, ea]
  have e2 : (999 : Int32) - nI a = nI (999 - a) := pk_sub (a := 999) (b := a) (by omega)
  rw [e2]
  exact ⟨inR_nI1 (K := 1) (by omega) (by omega), inR_nI1 (K := 1) (by omega) (by omega)⟩
theorem lw_fl {bz bz' : Nat → BV} {bl : Nat → Nat → Int32} {n : Nat} {f g f' g' : Nat → Int32} {p : Nat → Nat} {lx : Nat → Nat → Int32} {S S' : KS} {nl : Nat} {lz lz' : Nat → LV} {M : Nat} {w : Nat} (h : lwI bz bz' bl n f g f' g' p lx S S' nl lz lz' M) (hw : w ≤ 9) : lwI bz bz' bl n f g f' g' p lx (setF (nI w) S) (setF (nI w) S') nl lz lz' M := by
  obtain ⟨⟨⟨hn, hf, hg, hp⟩, hkn, hlx, hfg⟩, ⟨hb, hX, k1, k2⟩, ⟨hS, w1, w2, hN, ha⟩, hl, hlf, hlG, hM, hM12⟩ := h
  exact ⟨⟨⟨hn, hf, hg, hp⟩, hkn, hlx, hfg⟩, ⟨hb, hX, k1, k2⟩, ⟨setF_c hS, w1, w2, ⟨⟨w, hw, rfl⟩, hN.2⟩, ha⟩, hl, hlf, hlG, hM, hM12⟩
theorem coal_it {L : Nat → Int32} {S : KS} (hw : kwf S) (hN : kN L S) (ha : ∃ a : Nat, a ≤ 999 ∧ S.1 1 = nI a) : ∀ t, ∃ a : Nat, a ≤ 999 ∧ (kIt t S).1 1 = nI a
  | 0 => ha
  | t + 1 => by
    obtain ⟨a, ha9, ea⟩ := coal_it hw hN ha t
    obtain ⟨x, hx, ex⟩ := (kN_it hw hN t).1
    show ∃ b : Nat, b ≤ 999 ∧ kCoal ((kIt t S).1 1) ((kIt t S).1 0) = nI b
    rw [ea, ex]
    unfold kCoal
    split
    · rename_i q
      exact ⟨a - x, by omega, pk_sub (nle q)⟩
    · exact ⟨a, ha9, rfl⟩
theorem kIt_q {S : KS} : ∀ t, (kIt t S).2.1 ≤ S.2.1
  | 0 => Nat.le_refl _
  | t + 1 => by
    have := kIt_q (S := S) t
    show kmN ((kIt t S).1 2) (kIt t S).2.1 ≤ S.2.1
    unfold kmN
    split <;> omega
theorem chN_c {x y : CV} (h : cEq x y) (g : chN y) : chN x := by
  obtain ⟨r, f, s, b, a, o0, o1, o2, o3, e1, e2, e3, e4, e5, e6, e7, e8, e9, z⟩ := g
  exact ⟨r, f, s, b, a, o0, o1, o2, o3, (h.1 1 (by decide)).trans e1, (h.1 2 (by decide)).trans e2, (h.1 3 (by decide)).trans e3, (h.1 4 (by decide)).trans e4, (h.1 5 (by decide)).trans e5, (h.2.1 0 (by decide)).trans e6, (h.2.1 1 (by decide)).trans e7, (h.2.1 2 (by decide)).trans e8, (h.2.1 3 (by decide)).trans e9, z⟩
theorem chG_c {L : Nat → Int32} {x y : CV} (h : cEq x y) (g : chG L y) : chG L x := ⟨chN_c h g.1, lmE_c h g.2⟩
theorem kN_c {L : Nat → Int32} {S S' : KS} (hS : kEq S S') (hN : kN L S) : kN L S' := by
  refine ⟨?_, fun k hk => ?_, fun k hk q => ?_, fun i hi => ?_⟩
  · obtain ⟨f, hf, e⟩ := hN.1
    exact ⟨f, hf, (hS.1 0 (by decide)).symm.trans e⟩
  · obtain ⟨u, hu, e⟩ := hN.2.1 k hk
    exact ⟨u, hu, (hS.2.2.2.2.1 k hk).symm.trans e⟩
  · have c := hS.2.2.1 k hk
    have q2 : ¬ (S.2.2.1 k).1 0 = 0 := fun z => q (c.1.symm.trans z)
    exact chG_c (cEq_sy (c.2 q2)) (hN.2.2.1 k hk q2)
  · have hi2 : i < S.2.1 := by rw [hS.2.1]; exact hi
    have c := hS.2.2.2.1 i hi2
    exact ⟨(c.1 0 (by decide)).symm.trans (hN.2.2.2 i hi2).1, chG_c (cEq_sy c) (hN.2.2.2 i hi2).2⟩
theorem cnt5_c {S S' : KS} (hS : kEq S S') : cnt5 S.2.2.1 = cnt5 S'.2.2.1 := by
  unfold cnt5 bitC
  rw [(hS.2.2.1 0 (by decide)).1, (hS.2.2.1 1 (by decide)).1, (hS.2.2.1 2 (by decide)).1, (hS.2.2.1 3 (by decide)).1, (hS.2.2.1 4 (by decide)).1]
theorem lw_o {bz bz' : Nat → BV} {bl : Nat → Nat → Int32} {n : Nat} {f g f' g' : Nat → Int32} {p : Nat → Nat} {lx : Nat → Nat → Int32} {S S' : KS} {nl : Nat} {lz lz' : Nat → LV} {M : Nat} (h : lwI bz bz' bl n f g f' g' p lx S S' nl lz lz' M) : kN (L9 bz) S' ∧ nl + (cnt5 S'.2.2.1 + S'.2.1) = M ∧ M ≤ 12 ∧ lG (L9 bz) nl lz' ∧ lFr lz' := by
  obtain ⟨⟨⟨hn, hf, hg, hp⟩, hkn, hlx, hfg⟩, ⟨hb, hX, k1, k2⟩, ⟨hS, w1, w2, hN, ha⟩, hl, hlf, hlG, hM, hM12⟩ := h
  refine ⟨kN_c hS hN, by rw [← cnt5_c hS, ← hS.2.1]; exact hM, hM12, fun j hj => lmE_c (cEq_sy (hl.2 j hj)) (hlG j hj), fun j hj => ?_⟩
  exact ((hl.1 j hj).2 1 (by decide)).symm.trans (hlf j hj)
theorem lw_du {bz bz' : Nat → BV} {bl : Nat → Nat → Int32} {n : Nat} {f g f' g' : Nat → Int32} {p : Nat → Nat} {lx : Nat → Nat → Int32} {S S' : KS} {nl : Nat} {lz lz' : Nat → LV} {M : Nat} (h : lwI bz bz' bl n f g f' g' p lx S S' nl lz lz' M) : (∀ t, (rIt S nl lz 0 t).2.2.1 = 0) ∧ ∀ t, (rIt S' nl lz' 0 t).2.2.1 = 0 := by
  have ho := lw_o h
  obtain ⟨⟨⟨hn, hf, hg, hp⟩, hkn, hlx, hfg⟩, ⟨hb, hX, k1, k2⟩, ⟨hS, w1, w2, hN, ha⟩, hl, hlf, hlG, hM, hM12⟩ := h
  exact ⟨fun t => (rIt_ok w1 hN hM hM12 hlG hlf t).2.2.1, fun t => (rIt_ok w2 ho.1 ho.2.1 ho.2.2.1 ho.2.2.2.1 ho.2.2.2.2 t).2.2.1⟩
theorem lw_run {bz bz' : Nat → BV} {bl : Nat → Nat → Int32} {n : Nat} {f g f' g' : Nat → Int32} {p : Nat → Nat} {lx : Nat → Nat → Int32} {S S' : KS} {nl : Nat} {lz lz' : Nat → LV} {M : Nat} (h : lwI bz bz' bl n f g f' g' p lx S S' nl lz lz' M) (t : Nat) : lwI bz bz' bl n f g f' g' p lx (kIt t S) (kIt t S') ((rIt S nl lz 0 t).1) ((rIt S nl lz 0 t).2.1) ((rIt S' nl lz' 0 t).2.1) M ∧ (rIt S' nl lz' 0 t).1 = (rIt S nl lz 0 t).1 ∧ (rIt S' nl lz' 0 t).2.2.2 = (rIt S nl lz 0 t).2.2.2 := by
  obtain ⟨⟨⟨hn, hf, hg, hp⟩, hkn, hlx, hfg⟩, ⟨hb, hX, k1, k2⟩, ⟨hS, w1, w2, hN, ha⟩, hl, hlf, hlG, hM, hM12⟩ := h
  obtain ⟨i1, i2, i3, i4, i5, i6, i7⟩ := rIt_ok (du := 0) w1 hN hM hM12 hlG hlf t
  obtain ⟨j1, j2, j3⟩ := rIt_c (du := 0) (du' := 0) hS hl t
  exact ⟨⟨⟨⟨hn, hf, hg, hp⟩, hkn, hlx, hfg⟩, ⟨hb, hX, k1, k2⟩, ⟨kEq_it hS t, kwf_kIt w1 t, kwf_kIt w2 t, kN_it w1 hN t, coal_it w1 hN ha t⟩, j3, i5, i4, i2, hM12⟩, j1.symm, j2.symm⟩
theorem lw_okr {bz bz' : Nat → BV} {bl : Nat → Nat → Int32} {n : Nat} {f g f' g' : Nat → Int32} {p : Nat → Nat} {lx : Nat → Nat → Int32} {S S' : KS} {nl : Nat} {lz lz' : Nat → LV} {M : Nat} (h : lwI bz bz' bl n f g f' g' p lx S S' nl lz lz' M) (t : Nat) : wOk 4 bz' n f' g' (kIt t S') (rIt S' nl lz' 0 t).1 := by
  rw [(lw_run h t).2.1]
  exact (lw_ok (lw_run h t).1).2
theorem lw_free {bz bz' : Nat → BV} {bl : Nat → Nat → Int32} {n : Nat} {f g f' g' : Nat → Int32} {p : Nat → Nat} {lx : Nat → Nat → Int32} {S S' : KS} {nl : Nat} {lz lz' : Nat → LV} {M : Nat} (h : lwI bz bz' bl n f g f' g' p lx S S' nl lz lz' M) (t : Nat) : (rIt S nl lz 0 t).1 = nl + (rIt S nl lz 0 t).2.2.2 ∧ ((rIt S nl lz 0 t).2.2.2 = 0 → faI S t = -1) ∧ (0 < (rIt S nl lz 0 t).2.2.2 → faI S t = ((rIt S nl lz 0 t).2.1 ((rIt S nl lz 0 t).1 - 1)).2.2.1 2 ∧ ¬ faI S t = -1) := by
  obtain ⟨⟨⟨hn, hf, hg, hp⟩, hkn, hlx, hfg⟩, ⟨hb, hX, k1, k2⟩, ⟨hS, w1, w2, hN, ha⟩, hl, hlf, hlG, hM, hM12⟩ := h
  obtain ⟨i1, i2, i3, i4, i5, i6, i7⟩ := rIt_ok (du := 0) w1 hN hM hM12 hlG hlf t
  exact ⟨i1, i6, i7⟩
theorem lw_dig {bz bz' : Nat → BV} {bl : Nat → Nat → Int32} {n : Nat} {f g f' g' : Nat → Int32} {p : Nat → Nat} {lx : Nat → Nat → Int32} {S S' : KS} {nl : Nat} {lz lz' : Nat → LV} {M : Nat} {r r' : Int64} (h : lwI bz bz' bl n f g f' g' p lx S S' nl lz lz' M) (a : dgP 4 bz n f g S nl lz r) (b : dgP 4 bz' n f' g' S' nl lz' r') : r' = r := by
  obtain ⟨⟨⟨hn, hf, hg, hp⟩, hkn, hlx, hfg⟩, ⟨hb, hX, k1, k2⟩, ⟨hS, w1, w2, hN, ha⟩, hl, hlf, hlG, hM, hM12⟩ := h
  exact (dgP_c (by decide) ⟨hn, hf, hg, hp⟩ hb hfg hS (by omega) hl hlf a b).symm
theorem lw_dig0 {bz bz' : Nat → BV} {bl : Nat → Nat → Int32} {n : Nat} {f g f' g' : Nat → Int32} {p : Nat → Nat} {lx : Nat → Nat → Int32} {S S' : KS} {nl : Nat} {lz lz' : Nat → LV} {M : Nat} {r r' : Int64} (h : lwI bz bz' bl n f g f' g' p lx S S' nl lz lz' M) (a : dgP 4 bz n f g S nl lz r) (b : dgP 4 bz n f g S nl lz r') : r' = r := by
  obtain ⟨⟨⟨hn, hf, hg, hp⟩, hkn, hlx, hfg⟩, ⟨hb, hX, k1, k2⟩, ⟨hS, w1, w2, hN, ha⟩, hl, hlf, hlG, hM, hM12⟩ := h
  exact (dgP_c (by decide) ⟨hn, hf, hg, hp⟩ (fun i _ => ⟨rfl, rfl, fun _ _ => rfl⟩) (fun j _ => ⟨rfl, rfl⟩) (kEq_rf w1.1) (by omega) ⟨fun j _ => ⟨fun _ _ => rfl, fun _ _ => rfl⟩, fun j _ => cEq_rf⟩ hlf a b).symm
theorem knB_k {st p : Nat → Nat} {bz : Nat → BV} {n : Nat} {f g : Nat → Int32} {bl lf : Nat → Nat → Int32} (hT : tB 4 st p bz n f g bl lf) : ∀ j, j < n → ∃ v : Nat, v < 4 ∧ f j = nI v ∧ ¬ (bz v).2.1 = 0 := fun j hj => by
  obtain ⟨v, hv, e⟩ := (hT.2.2.1 j hj).2.2.1
  refine ⟨v, hv, e, ?_⟩
  rw [(hT.2.1 v hv).2.2.2, knB_1 e hj]
  decide
theorem kN_0 {L : Nat → Int32} : kN L kS0 := ⟨⟨0, by decide, rfl⟩, fun _ _ => ⟨0, by decide, rfl⟩, fun _ _ q => absurd rfl q, fun i hi => absurd hi (Nat.not_lt_zero i)⟩
theorem lw_0 {st p : Nat → Nat} {bz bz' : Nat → BV} {n : Nat} {f g f' g' : Nat → Int32} {bl lx : Nat → Nat → Int32} (hT : tB 4 st p bz n f g bl lx) (hX : tX bz bl) (hb : bEq 4 bz bz') (hfg : ∀ j, j < n → f j = f' j ∧ g j = g' j) (k2 : ∀ j, j < 6 → (bz' j).2.1 = 0 ∨ (bz' j).2.1 = 1) : lwI bz bz' bl n f g f' g' p lx kS0 kS0 0 (fun _ => lz0) (fun _ => lz0) 0 := by
  have hn4 := hT.1
  have e0 : bitC ch0 = 0 := if_pos rfl
  refine ⟨⟨⟨by omega, fun j hj => (hT.2.2.1 j hj).2.2.1, fun j hj => (hT.2.2.1 j hj).2.2.2.1, fun j hj => by have := (hT.2.2.1 j hj).2.2.2.2.2; omega⟩, knB_k hT, fun j hj => ⟨(hT.2.2.1 j hj).1, (hT.2.2.1 j hj).2.1⟩, hfg⟩, ⟨hb, hX, hT.2.2.2, k2⟩, ⟨kEq_rf (Nat.zero_le 3), kwf_0, kwf_0, kN_0, 0, by decide, rfl⟩, ⟨fun j _ => ⟨fun _ _ => rfl, fun _ _ => rfl⟩, fun j _ => cEq_rf⟩, fun _ _ => rfl, fun j hj => absurd hj (Nat.not_lt_zero j), ?_, by decide⟩
  show 0 + ((bitC ch0 + bitC ch0 + bitC ch0 + bitC ch0 + bitC ch0) + 0) = 0
  rw [e0]
theorem bst_pos {cm : Nat → Int32} {r : Int32} (h : bstR cm r) (h0 : ¬ r < 0) : ∃ o t u : Nat, o ≤ 3 ∧ t ≤ 3 ∧ u ≤ 3 ∧ RT cm o t u ∧ r = nI (100 * o + 10 * t + u) := by
  rcases h with ⟨A, hA, hf, hne, hn⟩ | ⟨e, hn⟩
  · rcases hf with ⟨o, t, u, h1, h2, h3, h4, h5, h6, h7⟩ | ⟨e, hn2⟩
    · exact ⟨o, t, u, h1, h2, h3, h5, h7⟩
    · exact absurd e hne
  · rw [e] at h0
    exact absurd (by decide) h0
theorem bst_neg {cm : Nat → Int32} {r : Int32} (h : bstR cm r) (h0 : r < 0) : ∀ a b d : Nat, a ≤ 3 → b ≤ 3 → d ≤ 3 → ¬ RT cm a b d := by
  rcases h with ⟨A, hA, hf, hne, hn⟩ | ⟨e, hn⟩
  · rcases hf with ⟨o, t, u, h1, h2, h3, h4, h5, h6, h7⟩ | ⟨e, hn2⟩
    · rw [h7] at h0
      exact absurd h0 (nI_pos (by omega))
    · exact absurd e hne
  · exact fun a b d ha hb hd => hn (a + b + d) (by omega) a b d ha hb hd rfl (Or.inl (by omega))
theorem rt_mod {bz : Nat → BV} {f g h9 cm9 h8 cm8 : Nat → Int32} {p : Nat → Nat} {n c a b d q : Nat} {y : CV} {W : Nat → CV} (hly : lyOk 4 n f g p) (hc1 : 1 ≤ c) (hc9 : c ≤ 9) (hcP : c ≤ nsm p n) : RT (mcF bz f (soAll g h8 n c) cm8 n) a b d ↔ qMod ((va_up W q (cgV f g h9 n c y (cgF bz f g h9 cm9 n c (nI a) (nI b) (nI d)))) q).2.1 3 = 1 := by
  rw [va_up_eq]
  show mxRight (mxBins (mcF bz f (soAll g h8 n c) cm8 n) (nI a) (nI b) (nI d)) = 1 ↔ mxRight (mxCopy y.2.1 (cgF bz f g h9 cm9 n c (nI a) (nI b) (nI d))) = 1
  rw [(mixR_c (f := mxCopy y.2.1 (cgF bz f g h9 cm9 n c (nI a) (nI b) (nI d))) (g := mxBins (mcF bz f (soAll g h8 n c) cm8 n) (nI a) (nI b) (nI d)) (fun k hk => (mxCopy_k k hk).trans (cgF_c (p := p) (by decide) hly (fun i _ => ⟨rfl, rfl, fun _ _ => rfl⟩) (fun j _ => ⟨rfl, rfl⟩) hc1 hc9 hcP k hk))).2.2.2]
theorem run1 {S : KS} {nl : Nat} {lz : Nat → LV} (hdu : ∀ t, (rIt S nl lz 0 t).2.2.1 = 0) (t : Nat) : (rIt (kIt t S) (rIt S nl lz 0 t).1 (rIt S nl lz 0 t).2.1 0 1).2.2.1 = 0 ∧ (rIt (kIt t S) (rIt S nl lz 0 t).1 (rIt S nl lz 0 t).2.1 0 1).1 = (rIt S nl lz 0 (t + 1)).1 ∧ (rIt (kIt t S) (rIt S nl lz 0 t).1 (rIt S nl lz 0 t).2.1 0 1).2.1 = (rIt S nl lz 0 (t + 1)).2.1 ∧ (rIt S nl lz 0 t).2.2.2 + (rIt (kIt t S) (rIt S nl lz 0 t).1 (rIt S nl lz 0 t).2.1 0 1).2.2.2 = (rIt S nl lz 0 (t + 1)).2.2.2 := by
  have h := rIt_1 (S := S) (nl := nl) (lz := lz) (du := 0) t
  rw [hdu t] at h
  exact ⟨h.2.2.1.trans (hdu (t + 1)), h.1, h.2.1, h.2.2.2⟩
theorem z32_nlt {x : Int32} (h : 0 ≤ x) : ¬ x < 0 := by
  rw [Int32.le_iff_toInt_le] at h
  rw [Int32.lt_iff_toInt_lt]
  omega
theorem z32_nle {x y : Int32} (h : ¬ y ≤ x) : x < y := by
  rw [Int32.le_iff_toInt_le] at h
  rw [Int32.lt_iff_toInt_lt]
  omega
theorem z32_le {x y : Int32} (h : ¬ y < x) : x ≤ y := by
  rw [Int32.lt_iff_toInt_lt] at h
  rw [Int32.le_iff_toInt_le]
  omega
theorem lg_0 {x y : Int64} (h : x = y) : lg_cmp x y = 0 := (lg_cmp_eq x y).mpr h
theorem lw_lime {bz bz' : Nat → BV} {bl : Nat → Nat → Int32} {n : Nat} {f g f' g' : Nat → Int32} {p : Nat → Nat} {lx : Nat → Nat → Int32} {S S' : KS} {nl : Nat} {lz lz' : Nat → LV} {M : Nat} (h : lwI bz bz' bl n f g f' g' p lx S S' nl lz lz' M) {j : Nat} (hj : j < nl) : lmS (L9 bz) (lz j).2.2.2.2 4 = (lz j).2.2.2.1 0 := by
  obtain ⟨⟨⟨hn, hf, hg, hp⟩, hkn, hlx, hfg⟩, ⟨hb, hX, k1, k2⟩, ⟨hS, w1, w2, hN, ha⟩, hl, hlf, hlG, hM, hM12⟩ := h
  exact hlG j hj
