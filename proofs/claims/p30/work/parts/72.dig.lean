/-! ===== the digest of what is alike ===== -/
def bEq (nb : Nat) (bz bz' : Nat → BV) : Prop := ∀ i, i < nb → (bz i).1 = (bz' i).1 ∧ (bz i).2.1 = (bz' i).2.1 ∧ ∀ k, k < 4 → (bz i).2.2 k = (bz' i).2.2 k
theorem bkOx_c {z z' : BV} (h1 : z.2.1 = z'.2.1) (h2 : ∀ k, k < 4 → z.2.2 k = z'.2.2 k) : ∀ k, k < 4 → bkOx z k = bkOx z' k := by
  intro k hk
  unfold bkOx bkB
  rw [h1, h2 k hk]
theorem fl1_c {f g : Nat → Int32} {d : Int64} : ∀ {N : Nat}, (∀ w, w < N → f w = g w) → fl1 f N d = fl1 g N d
  | 0, _ => rfl
  | N + 1, h => by
    show fl1 f N d * 31 + (f N).toInt64 = fl1 g N d * 31 + (g N).toInt64
    rw [fl1_c (fun w hw => h w (by omega)), h N (by omega)]
theorem fl2_c {f g : Nat → Nat → Int32} {K : Nat} {d : Int64} : ∀ {N : Nat}, (∀ i, i < N → ∀ w, w < K → f i w = g i w) → fl2 f K N d = fl2 g K N d
  | 0, _ => rfl
  | N + 1, h => by
    show fl1 (f N) K (fl2 f K N d) = fl1 (g N) K (fl2 g K N d)
    rw [fl2_c (fun i hi => h i (by omega)), fl1_c (fun w hw => h N (by omega) w hw)]
theorem sm_c {g g' : Nat → Int32} : ∀ {n : Nat}, (∀ j, j < n → g j = g' j) → sm g n = sm g' n
  | 0, _ => rfl
  | n + 1, h => by
    show sm g n + g n = sm g' n + g' n
    rw [sm_c (fun j hj => h j (by omega)), h n (by omega)]
theorem mxStone_k {F b : Nat → Int32} {x : Int32} : ∀ k, k < 4 → mxStone F b x k = F k + x * b k := fun k hk => by
  match k, hk with
  | 0, _ => rfl
  | 1, _ => rfl
  | 2, _ => rfl
  | 3, _ => rfl
theorem mxClear_k {F : Nat → Int32} : ∀ k, k < 4 → mxClear F k = 0 := fun k hk => by
  match k, hk with
  | 0, _ => rfl
  | 1, _ => rfl
  | 2, _ => rfl
  | 3, _ => rfl
theorem mcF_c {nb : Nat} {bz bz' : Nat → BV} {f f' sh sh' cm cm' : Nat → Int32} (hb : bEq nb bz bz') : ∀ {n : Nat}, (∀ j, j < n → f j = f' j ∧ ∃ v : Nat, v < nb ∧ f j = nI v) → nb ≤ 6 → (∀ j, j < n → sh j = sh' j) → ∀ k, k < 4 → mcF bz f sh cm n k = mcF bz' f' sh' cm' n k
  | 0, _, _, _, k, hk => by
    show mxClear cm k = mxClear cm' k
    rw [mxClear_k k hk, mxClear_k k hk]
  | n + 1, hf, hnb, hs, k, hk => by
    show mxStone (mcF bz f sh cm n) (bkOx (bz (f n).toNatClampNeg)) (sh n) k = mxStone (mcF bz' f' sh' cm' n) (bkOx (bz' (f' n).toNatClampNeg)) (sh' n) k
    obtain ⟨e1, v, hv, e2⟩ := hf n (by omega)
    have ih := mcF_c (cm := cm) (cm' := cm') hb (n := n) (fun j hj => hf j (by omega)) hnb (fun j hj => hs j (by omega)) k hk
    rw [mxStone_k k hk, mxStone_k k hk, ih, hs n (by omega), ← e1, e2, nI_clamp (by omega), bkOx_c (hb v hv).2.1 (hb v hv).2.2 k hk]
theorem mxBins_c {f g : Nat → Int32} {a b d : Int32} (h : ∀ k, k < 4 → f k = g k) : ∀ k, k < 4 → mxBins f a b d k = mxBins g a b d k := fun k hk => by
  match k, hk with
  | 0, _ => exact h 0 (by decide)
  | 1, _ => show f 1 + (9 * a + 3 * b) = g 1 + (9 * a + 3 * b); rw [h 1 (by decide)]
  | 2, _ => show f 2 + 6 * b = g 2 + 6 * b; rw [h 2 (by decide)]
  | 3, _ => show f 3 + 9 * d = g 3 + 9 * d; rw [h 3 (by decide)]
theorem RT_c {cm cm' : Nat → Int32} (h : ∀ k, k < 4 → cm k = cm' k) : RT cm = RT cm' := by
  funext o t k
  unfold RT
  rw [(mixR_c (mxBins_c h)).2.2.2]
theorem bst_t {cm cm' : Nat → Int32} {x : Int32} (h : ∀ k, k < 4 → cm k = cm' k) (a : bstR cm x) : bstR cm' x := by
  unfold bstR fstR noR at a ⊢
  rw [← RT_c h]
  exact a
theorem fst_u {cm : Nat → Int32} {A : Nat} {x y : Int32} (a : fstR cm A x) (b : fstR cm A y) (hx : ¬ x = -1) (hy : ¬ y = -1) : x = y := by
  rcases a with ⟨o, t, k, h1, h2, h3, h4, h5, h6, rfl⟩ | ⟨e, -⟩
  · rcases b with ⟨o', t', k', g1, g2, g3, g4, g5, g6, rfl⟩ | ⟨e, -⟩
    · have p1 : ¬ (o' < o ∨ o' = o ∧ t' < t) := fun q => h6 o' t' k' g1 g2 g3 g4 q g5
      have p2 : ¬ (o < o' ∨ o = o' ∧ t < t') := fun q => g6 o t k h1 h2 h3 h4 q h5
      have e1 : o = o' := by omega
      have e2 : t = t' := by omega
      have e3 : k = k' := by omega
      rw [e1, e2, e3]
    · exact absurd e hy
  · exact absurd e hx
theorem fst_r {cm : Nat → Int32} {A : Nat} {x : Int32} (a : fstR cm A x) (hx : ¬ x = -1) (hn : noR cm A 4 0) : False := by
  rcases a with ⟨o, t, k, h1, h2, h3, h4, h5, -, -⟩ | ⟨e, -⟩
  · exact hn o t k h1 h2 h3 h4 (Or.inl (by omega)) h5
  · exact hx e
theorem bst_u {cm : Nat → Int32} {x y : Int32} (a : bstR cm x) (b : bstR cm y) : x = y := by
  rcases a with ⟨A, hA, a1, a2, a3⟩ | ⟨rfl, a3⟩
  · rcases b with ⟨B, hB, b1, b2, b3⟩ | ⟨rfl, b3⟩
    · rcases Nat.lt_trichotomy A B with e | e | e
      · exact (fst_r a1 a2 (b3 A e)).elim
      · subst e
        exact fst_u a1 b1 a2 b2
      · exact (fst_r b1 b2 (a3 B e)).elim
    · exact (fst_r a1 a2 (b3 A (by omega))).elim
  · rcases b with ⟨B, hB, b1, b2, b3⟩ | ⟨rfl, b3⟩
    · exact (fst_r b1 b2 (a3 B (by omega))).elim
    · rfl
theorem qBlock_c {z z' : BV} (h0 : z.1 = z'.1) (h1 : z.2.1 = z'.2.1) (h2 : ∀ k, k < 4 → z.2.2 k = z'.2.2 k) : ∀ w, w < 6 → qBlock z w = qBlock z' w := fun w hw => by
  match w, hw with
  | 0, _ => exact h0
  | 1, _ => exact h1
  | k + 2, hk => exact bkOx_c h1 h2 k (by omega)
theorem qCell_c {x y : CV} {a : Int32} (h : cEqP x y) : ∀ w, w < 8 → qCell x a w = qCell y a w := fun w hw => by
  by_cases e : x.1 0 = 0
  · have e' := h.1.symm.trans e
    match w, hw with
    | 0, _ => rfl
    | 1, _ => exact (if_pos e).trans (if_pos e').symm
    | 2, _ => exact (if_pos e).trans (if_pos e').symm
    | 3, _ => exact (if_pos e).trans (if_pos e').symm
    | 4, _ => exact (if_pos e).trans (if_pos e').symm
    | 5, _ => exact (if_pos e).trans (if_pos e').symm
    | 6, _ => exact (if_pos e).trans (if_pos e').symm
    | 7, _ => exact (if_pos e).trans (if_pos e').symm
  · have e' : ¬ y.1 0 = 0 := fun q => e (h.1.trans q)
    have g := h.2 e
    match w, hw with
    | 0, _ => rfl
    | 1, _ => exact (if_neg e).trans (if_neg e').symm
    | 2, _ => exact (if_neg e).trans ((g.1 1 (by decide)).trans (if_neg e').symm)
    | 3, _ => exact (if_neg e).trans ((g.1 2 (by decide)).trans (if_neg e').symm)
    | 4, _ => exact (if_neg e).trans ((g.1 3 (by decide)).trans (if_neg e').symm)
    | 5, _ => exact (if_neg e).trans ((g.1 4 (by decide)).trans (if_neg e').symm)
    | 6, _ => exact (if_neg e).trans ((g.1 5 (by decide)).trans (if_neg e').symm)
    | 7, _ => exact (if_neg e).trans ((mel_c g.2.1).trans (if_neg e').symm)
theorem qMod_c {f g : Nat → Int32} (h : ∀ k, k < 4 → f k = g k) : ∀ w, w < 4 → qMod f w = qMod g w := fun w hw => by
  obtain ⟨h0, h1, h2, h3⟩ := mixR_c h
  match w, hw with
  | 0, _ => exact h0
  | 1, _ => exact h1
  | 2, _ => exact h2
  | 3, _ => exact h3
theorem qLot_c {z z' : LV} (h1 : ∀ k, k < 5 → z.1 k = z'.1 k) (h2 : ∀ k, k < 3 → z.2.1 k = z'.2.1 k) (h3 : cEq z.2.2 z'.2.2) : ∀ w, w < 22 → qLot z w = qLot z' w := fun w hw => by
  match w, hw with
  | 0, _ => exact h3.2.1 0 (by decide)
  | 1, _ => exact h3.2.1 1 (by decide)
  | 2, _ => exact h3.2.1 2 (by decide)
  | 3, _ => exact h3.2.1 3 (by decide)
  | 4, _ => exact h3.1 1 (by decide)
  | 5, _ => exact h3.1 2 (by decide)
  | 6, _ => exact h3.1 3 (by decide)
  | 7, _ => exact h3.1 4 (by decide)
  | 8, _ => exact h3.1 5 (by decide)
  | 9, _ => exact h1 0 (by decide)
  | 10, _ => exact h1 1 (by decide)
  | 11, _ => exact h1 2 (by decide)
  | 12, _ => exact h1 4 (by decide)
  | 13, _ => exact h2 0 (by decide)
  | 14, _ => exact h2 1 (by decide)
  | 15, _ => exact h2 2 (by decide)
  | k + 16, hk => exact h3.2.2 k (by omega)
/-- lots alike; none was ground -/
def lEq (nl : Nat) (lz lz' : Nat → LV) : Prop := (∀ j, j < 12 → (∀ k, k < 5 → (lz j).1 k = (lz' j).1 k) ∧ ∀ k, k < 3 → (lz j).2.1 k = (lz' j).2.1 k) ∧ ∀ j, j < nl → cEq (lz j).2.2 (lz' j).2.2
def lFr (lz : Nat → LV) : Prop := ∀ j, j < 12 → (lz j).2.1 1 = -1
theorem flL_c {lz lz' : Nat → LV} {nl : Nat} {d : Int64} (hn : nl ≤ 12) (h : lEq nl lz lz') (hf : lFr lz) : ∀ i, i ≤ nl → flL lz nl i d = flL lz' nl i d
  | 0, _ => rfl
  | i + 1, hi => by
    show flT lz nl i (fl1 (qLot (lz i)) 22 (flL lz nl i d)) = flT lz' nl i (fl1 (qLot (lz' i)) 22 (flL lz' nl i d))
    obtain ⟨h1, h2⟩ := h.1 i (by omega)
    have e : ltGr ((lz i).2.1 1) = 0 := by rw [hf i (by omega)]; rfl
    have e' : ltGr ((lz' i).2.1 1) = 0 := by rw [← h2 1 (by decide)]; exact e
    unfold flT
    rw [if_pos e, if_pos e', flL_c hn h hf i (by omega), fl1_c (qLot_c h1 h2 (h.2 i (by omega)))]
theorem qMany_c {nb n nl wn : Nat} {g g' : Nat → Int32} {S S' : KS} {du mo cl ws : Int32} {sz : Nat → SV} (hg : sm g n = sm g' n) (h : kEq S S') : ∀ w, w < 18 → qMany nb n nl g S du mo cl wn sz ws w = qMany nb n nl g' S' du mo cl wn sz ws w := fun w hw => by
  match w, hw with
  | 0, _ => rfl
  | 1, _ => rfl
  | 2, _ => exact hg
  | 3, _ => show nI S.2.1 = nI S'.2.1; rw [h.2.1]
  | 4, _ => exact h.1 0 (by decide)
  | 5, _ => exact h.1 1 (by decide)
  | 6, _ => exact h.1 3 (by decide)
  | 7, _ => exact h.1 2 (by decide)
  | 8, _ => exact h.1 4 (by decide)
  | 9, _ => exact h.1 5 (by decide)
  | 10, _ => rfl
  | 11, _ => rfl
  | 12, _ => exact h.1 6 (by decide)
  | 13, _ => rfl
  | 14, _ => rfl
  | 15, _ => rfl
  | 16, _ => rfl
  | 17, _ => rfl
  | k + 18, hk => exact absurd hk (by omega)
/-- what the digest is of, but for what would be -/
def dgO (nb : Nat) (bz : Nat → BV) (n : Nat) (f g : Nat → Int32) (S : KS) (nl : Nat) (lz : Nat → LV) : Int64 :=
  fl2 (fun ι κ => siAt (((fun _ => sz0 : Nat → SV)) ι).2.2 (((fun _ => sz0 : Nat → SV)) ι).1 (nI κ)) 3 2 (flL lz nl nl (fl2 (fun ι κ => qMod (S.2.2.2.1 ι).2.1 κ) 4 S.2.1 (fl2 (fun ι κ => qCell (S.2.2.1 ι) (S.2.2.2.2.2 ι) κ) 8 5 (fl2 (fun ι κ => if κ = 0 then f ι else g ι) 2 n (fl2 (fun ι κ => qBlock (bz ι) κ) 6 nb (fl1 (qMany nb n nl g S 0 0 0 0 (fun _ => sz0) 6) 18 5407)))))) * 31 + (wiHolds (fun _ => 0) 0 6).toInt64
/-- what digest may answer -/
def dgP (nb : Nat) (bz : Nat → BV) (n : Nat) (f g : Nat → Int32) (S : KS) (nl : Nat) (lz : Nat → LV) (r : Int64) : Prop :=
  ∃ (y w : Int32) (h cm : Nat → Int32) (St : KS), (¬ sm g n < 3 → bstR (mcF bz f (soAll g h n 3) cm n) y) ∧ lfR S 5 w ∧ r = dgR (dgO nb bz n f g S nl lz) (sm g n) y (faI (trS St S 6) 5) w
/-- layers: of blocks, their parts -/
def lyOk (nb n : Nat) (f g : Nat → Int32) (p : Nat → Nat) : Prop := n ≤ 8 ∧ (∀ j, j < n → ∃ v : Nat, v < nb ∧ f j = nI v) ∧ (∀ j, j < n → g j = nI (p j)) ∧ ∀ j, j < n → p j ≤ 200
theorem soAll_c {g g' h h' : Nat → Int32} {p : Nat → Nat} {n K : Nat} (hn : n ≤ 8) (hg : ∀ j, j < n → g j = nI (p j)) (hp : ∀ j, j < n → p j ≤ 200) (hgg : ∀ j, j < n → g j = g' j) (hK9 : K ≤ 9) (hK0 : 0 < K) (hK : K ≤ nsm p n) : ∀ j, j < n → soAll g h n K j = soAll g' h' n K j := fun j hj => by
  have hb := nsm_b hp
  rw [soAll_nat hg hp (by omega) (by omega) hK9 hK j hj, soAll_nat (fun j hj => (hgg j hj).symm.trans (hg j hj)) hp (by omega) (by omega) hK9 hK j hj]
theorem dgP_c {nb n nl : Nat} {bz bz' : Nat → BV} {f f' g g' : Nat → Int32} {S S' : KS} {lz lz' : Nat → LV} {p : Nat → Nat} {r r' : Int64} (hnb : nb ≤ 6) (hly : lyOk nb n f g p) (hb : bEq nb bz bz') (hfg : ∀ j, j < n → f j = f' j ∧ g j = g' j) (hS : kEq S S') (hnl : nl ≤ 12) (hl : lEq nl lz lz') (hlf : lFr lz) (a : dgP nb bz n f g S nl lz r) (b : dgP nb bz' n f' g' S' nl lz' r') : r = r' := by
  obtain ⟨y, w, h, cm, St, a1, a2, rfl⟩ := a
  obtain ⟨y', w', h', cm', St', b1, b2, rfl⟩ := b
  obtain ⟨hn, hf, hg, hp⟩ := hly
  have es : sm g n = sm g' n := sm_c (fun j hj => (hfg j hj).2)
  have eo : dgO nb bz n f g S nl lz = dgO nb bz' n f' g' S' nl lz' := by
    unfold dgO
    rw [fl1_c (qMany_c (nb := nb) (nl := nl) (wn := 0) (du := 0) (mo := 0) (cl := 0) (ws := 6) (sz := fun _ => sz0) es hS), fl2_c (K := 6) (N := nb) (f := fun ι κ => qBlock (bz ι) κ) (g := fun ι κ => qBlock (bz' ι) κ) (fun i hi w hw => qBlock_c (hb i hi).1 (hb i hi).2.1 (hb i hi).2.2 w hw), fl2_c (K := 2) (N := n) (f := fun ι κ => if κ = 0 then f ι else g ι) (g := fun ι κ => if κ = 0 then f' ι else g' ι) (fun i hi w _ => by
      show (if w = 0 then f i else g i) = if w = 0 then f' i else g' i
      rw [(hfg i hi).1, (hfg i hi).2]), fl2_c (K := 8) (N := 5) (f := fun ι κ => qCell (S.2.2.1 ι) (S.2.2.2.2.2 ι) κ) (g := fun ι κ => qCell (S'.2.2.1 ι) (S'.2.2.2.2.2 ι) κ) (fun i hi w hw => by
      show qCell (S.2.2.1 i) (S.2.2.2.2.2 i) w = qCell (S'.2.2.1 i) (S'.2.2.2.2.2 i) w
      rw [hS.2.2.2.2.1 i hi]
      exact qCell_c (hS.2.2.1 i hi) w hw), fl2_c (K := 4) (N := S.2.1) (f := fun ι κ => qMod (S.2.2.2.1 ι).2.1 κ) (g := fun ι κ => qMod (S'.2.2.2.1 ι).2.1 κ) (fun i hi w hw => qMod_c (hS.2.2.2.1 i hi).2.1 w hw), flL_c hnl hl hlf nl (Nat.le_refl nl), hS.2.1]
  rw [eo, es, lfR_c hS a2 b2, faI_c (trS_c (Z := St) (Z' := St') hS) 5]
  unfold dgR
  by_cases q : sm g' n < 3
  · rw [if_pos q, if_pos q]
  · rw [if_neg q, if_neg q]
    have q2 : ¬ sm g n < 3 := fun z => q (es ▸ z)
    have hb9 := nsm_b hp
    have hK : 3 ≤ nsm p n := by
      have e := sm_nat hg
      rw [e] at q2
      exact nnlt (a := nsm p n) (b := 3) q2
    have hc := mcF_c (cm := cm) (cm' := cm') (f := f) (f' := f') hb (fun j hj => ⟨(hfg j hj).1, hf j hj⟩) hnb (soAll_c (h := h) (h' := h') hn hg hp (fun j hj => (hfg j hj).2) (by omega) (by omega) hK)
    rw [bst_u (bst_t hc (a1 q2)) (b1 q)]
