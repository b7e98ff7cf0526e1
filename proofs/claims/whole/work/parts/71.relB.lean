/-! ===== the class beside the model: blocks and the pile ===== -/
def RB (nb n : Nat) (bz : Nat → BV) (bm : Nat → Nat → Int32) (f g : Nat → Int32) (ym : Nat → Nat → Int32) : Prop :=
  nb ≤ 6 ∧ n ≤ 8 ∧ (∀ k, k < n → ∃ v, v < nb ∧ f k = nI v ∧ ¬ (bz v).2.1 = 0) ∧ (∀ j, j < 6 → (bz j).2.1 = 0 ∨ (bz j).2.1 = 1) ∧ (∀ j, j < nb → bmR (bm j) (bz j)) ∧ (∀ j, nb ≤ j → j < 6 → (bz j).2.1 = 0) ∧ (∀ j, j < nb → (∃ a : Nat, a ≤ 200 ∧ (bz j).1 = nI a) ∧ ∀ k, k < 4 → ∃ a : Nat, a ≤ 9 ∧ (bz j).2.2 k = nI a) ∧ (∀ k, k < n → ym k 0 = f k ∧ ym k 1 = g k ∧ ∃ a : Nat, a ≤ 200 ∧ g k = nI a)
theorem one_n0 : ¬ (1 : Int32) = 0 := by decide
abbrev pg (g : Nat → Int32) : Nat → Nat := fun k => (g k).toNatClampNeg
section RBs
variable {nb n : Nat} {bz : Nat → BV} {bm : Nat → Nat → Int32} {f g : Nat → Int32} {ym : Nat → Nat → Int32}
theorem RB.nb6 (h : RB nb n bz bm f g ym) : nb ≤ 6 := h.1
theorem RB.n8 (h : RB nb n bz bm f g ym) : n ≤ 8 := h.2.1
theorem RB.kn (h : RB nb n bz bm f g ym) : ∀ k, k < n → ∃ v, v < nb ∧ f k = nI v ∧ ¬ (bz v).2.1 = 0 := h.2.2.1
theorem RB.f6 (h : RB nb n bz bm f g ym) : ∀ j, j < n → ∃ v : Nat, v < nb ∧ f j = nI v := fun j hj => by
  obtain ⟨v, h1, h2, -⟩ := h.kn j hj
  exact ⟨v, h1, h2⟩
theorem RB.k01 (h : RB nb n bz bm f g ym) : ∀ j, j < 6 → (bz j).2.1 = 0 ∨ (bz j).2.1 = 1 := h.2.2.2.1
theorem RB.bm6 (h : RB nb n bz bm f g ym) : ∀ j, j < nb → bmR (bm j) (bz j) := h.2.2.2.2.1
theorem RB.fr (h : RB nb n bz bm f g ym) : ∀ j, nb ≤ j → j < 6 → (bz j).2.1 = 0 := h.2.2.2.2.2.1
theorem RB.ox (h : RB nb n bz bm f g ym) : ∀ j, j < nb → (∃ a : Nat, a ≤ 200 ∧ (bz j).1 = nI a) ∧ ∀ k, k < 4 → ∃ a : Nat, a ≤ 9 ∧ (bz j).2.2 k = nI a := h.2.2.2.2.2.2.1
theorem RB.yy (h : RB nb n bz bm f g ym) : ∀ k, k < n → ym k 0 = f k ∧ ym k 1 = g k ∧ ∃ a : Nat, a ≤ 200 ∧ g k = nI a := h.2.2.2.2.2.2.2
theorem RB.y0 (h : RB nb n bz bm f g ym) : ∀ k, k < n → ym k 0 = f k := fun k hk => (h.yy k hk).1
theorem RB.y1 (h : RB nb n bz bm f g ym) : ∀ k, k < n → ym k 1 = g k := fun k hk => (h.yy k hk).2.1
theorem RB.gp (h : RB nb n bz bm f g ym) : ∀ j, j < n → g j = nI (pg g j) := fun j hj => by
  obtain ⟨-, -, a, ha, e⟩ := h.yy j hj
  show g j = nI (g j).toNatClampNeg
  rw [e, nI_clamp (by omega)]
theorem RB.p2 (h : RB nb n bz bm f g ym) : ∀ j, j < n → pg g j ≤ 200 := fun j hj => by
  obtain ⟨-, -, a, ha, e⟩ := h.yy j hj
  show (g j).toNatClampNeg ≤ 200
  rw [e, nI_clamp (by omega)]
  exact ha
theorem RB_drill (h : RB nb n bz bm f g ym) {i : Nat} (hi : i < nb) : RB nb n (va_up bz i ((bz i).1, 1, (bz i).2.2)) (va_up bm i (upd (bm i) 1 1)) f g ym := by
  obtain ⟨hnb, hn8, hkn, hk01, hbm, hfr, hox, hy⟩ := h
  refine ⟨hnb, hn8, fun k hk => ?_, fun j hj => ?_, fun j hj => ?_, fun j h1 h2 => ?_, fun j hj => ?_, hy⟩
  · obtain ⟨v, hv, e1, e2⟩ := hkn k hk
    refine ⟨v, hv, e1, ?_⟩
    by_cases ev : v = i
    · subst ev; rw [va_up_self]; exact one_n0
    · rw [va_up_ne _ _ ev]; exact e2
  · by_cases e : j = i
    · subst e; rw [va_up_self]; exact Or.inr rfl
    · rw [va_up_ne _ _ e]; exact hk01 j hj
  · by_cases e : j = i
    · subst e
      rw [va_up_self, va_up_self]
      obtain ⟨q0, q1, q2, q3, q4, q5⟩ := hbm j hj
      exact ⟨by simpa [upd] using q0, by simp [upd], by simpa [upd] using q2, by simpa [upd] using q3, by simpa [upd] using q4, by simpa [upd] using q5⟩
    · rw [va_up_ne _ _ e, va_up_ne _ _ e]; exact hbm j hj
  · rw [va_up_ne _ _ (show j ≠ i by omega)]; exact hfr j h1 h2
  · by_cases e : j = i
    · subst e; rw [va_up_self]; exact hox j hj
    · rw [va_up_ne _ _ e]; exact hox j hj
theorem RB_block (h : RB nb n bz bm f g ym) {s0 v0 v1 v2 v3 : Int32} (hok : bkOk s0 v0 v1 v2 v3) (h6 : nb < 6) : RB (nb + 1) n (va_up bz nb (s0, (bz nb).2.1, tl5 (bz nb).2.2 v0 v1 v2 v3)) (va_up bm nb (va_cpy (upd (upd (upd (upd (upd (upd (fun _ => 0) 0 s0) 1 0) 2 v0) 3 v1) 4 v2) 5 v3) (bm nb) 0 0 6)) f g ym := by
  obtain ⟨hnb, hn8, hkn, hk01, hbm, hfr, hox, hy⟩ := h
  have hk0 := hfr nb (Nat.le_refl _) h6
  refine ⟨by omega, hn8, fun k hk => ?_, fun j hj => ?_, fun j hj => ?_, fun j h1 h2 => ?_, fun j hj => ?_, hy⟩
  · obtain ⟨v, hv, e1, e2⟩ := hkn k hk
    exact ⟨v, by omega, e1, by rw [va_up_ne _ _ (show v ≠ nb by omega)]; exact e2⟩
  · by_cases e : j = nb
    · subst e; rw [va_up_self]; exact Or.inl hk0
    · rw [va_up_ne _ _ e]; exact hk01 j hj
  · by_cases e : j = nb
    · subst e
      rw [va_up_self, va_up_self]
      exact ⟨by simp [va_cpy, upd], by simp [va_cpy, upd, hk0], by simp [va_cpy, upd, tl5], by simp [va_cpy, upd, tl5], by simp [va_cpy, upd, tl5], by simp [va_cpy, upd, tl5]⟩
    · rw [va_up_ne _ _ e, va_up_ne _ _ e]; exact hbm j (by omega)
  · rw [va_up_ne _ _ (show j ≠ nb by omega)]; exact hfr j (by omega) h2
  · by_cases e : j = nb
    · subst e
      rw [va_up_self]
      obtain ⟨k0, k1, k2, k3, k4⟩ := hok
      refine ⟨by obtain ⟨w, hw, e⟩ := inR_of (M := 200) k0; exact ⟨w, hw, e⟩, fun k hk => ?_⟩
      rcases (show k = 0 ∨ k = 1 ∨ k = 2 ∨ k = 3 by omega) with rfl | rfl | rfl | rfl
      · obtain ⟨w, hw, e⟩ := inR_of (M := 9) k1; exact ⟨w, hw, by simpa [tl5, upd] using e⟩
      · obtain ⟨w, hw, e⟩ := inR_of (M := 9) k2; exact ⟨w, hw, by simpa [tl5, upd] using e⟩
      · obtain ⟨w, hw, e⟩ := inR_of (M := 9) k3; exact ⟨w, hw, by simpa [tl5, upd] using e⟩
      · obtain ⟨w, hw, e⟩ := inR_of (M := 9) k4; exact ⟨w, hw, by simpa [tl5, upd] using e⟩
    · rw [va_up_ne _ _ e]; exact hox j (by omega)
theorem RB_blast (h : RB nb n bz bm f g ym) {i : Nat} (hi : i < nb) {x : Int32} (hx : inR 1 99 x) (h8 : n < 8) : RB nb (n + 1) (va_up bz i ((bz i).1 - mn x (bz i).1, 1, (bz i).2.2)) (va_up bm i (upd (upd (bm i) 0 (bm i 0 - mn x (bm i 0))) 1 1)) (upd f n (nI i)) (upd g n (mn x (bz i).1)) (va_up ym n (upd (upd (ym n) 0 (nI i)) 1 (mn x (bm i 0)))) := by
  obtain ⟨hnb, hn8, hkn, hk01, hbm, hfr, hox, hy⟩ := h
  obtain ⟨a, ha1, ha2, rfl⟩ := inR_of1 (K := 1) (M := 99) hx
  obtain ⟨⟨b, hb, eb⟩, hoi⟩ := hox i hi
  have em : mn (nI a) (bz i).1 = nI (min a b) := by rw [eb, mn_nI]
  have e0 : bm i 0 = (bz i).1 := (hbm i hi).1
  refine ⟨hnb, by omega, fun k hk => ?_, fun j hj => ?_, fun j hj => ?_, fun j h1 h2 => ?_, fun j hj => ?_, fun k hk => ?_⟩
  · by_cases e : k = n
    · subst e
      exact ⟨i, hi, by rw [pk_us], by rw [va_up_self]; exact one_n0⟩
    · obtain ⟨v, hv, e1, e2⟩ := hkn k (by omega)
      refine ⟨v, hv, by rw [pk_un e]; exact e1, ?_⟩
      by_cases ev : v = i
      · subst ev; rw [va_up_self]; exact one_n0
      · rw [va_up_ne _ _ ev]; exact e2
  · by_cases e : j = i
    · subst e; rw [va_up_self]; exact Or.inr rfl
    · rw [va_up_ne _ _ e]; exact hk01 j hj
  · by_cases e : j = i
    · subst e
      rw [va_up_self, va_up_self]
      obtain ⟨q0, q1, q2, q3, q4, q5⟩ := hbm j hj
      exact ⟨by simp [upd, q0], by simp [upd], by simpa [upd] using q2, by simpa [upd] using q3, by simpa [upd] using q4, by simpa [upd] using q5⟩
    · rw [va_up_ne _ _ e, va_up_ne _ _ e]; exact hbm j hj
  · rw [va_up_ne _ _ (show j ≠ i by omega)]; exact hfr j h1 h2
  · by_cases e : j = i
    · subst e
      rw [va_up_self]
      refine ⟨⟨b - min a b, by omega, ?_⟩, hoi⟩
      show (bz j).1 - mn (nI a) (bz j).1 = _
      rw [em, eb, pk_sub (by omega)]
    · rw [va_up_ne _ _ e]; exact hox j hj
  · by_cases e : k = n
    · subst e
      rw [va_up_self, pk_us, pk_us, pk_us, e0, em]
      exact ⟨by simp [upd], rfl, min a b, by omega, rfl⟩
    · rw [va_up_ne _ _ e, pk_un e, pk_un e]
      exact hy k (by omega)
theorem tsF_I (h : RB nb n bz bm f g ym) {sh w : Nat → Int32} {q : Nat → Nat} (hs : ∀ j, j < n → sh j = nI (q j)) (hq : ∀ j, j < n → q j ≤ pg g j) : ∀ {i : Nat}, i ≤ n → (tsF f g sh w i).1 ≤ i ∧ ∀ k, k < (tsF f g sh w i).1 → (∃ v, v < nb ∧ (tsF f g sh w i).2.1 k = nI v ∧ ¬ (bz v).2.1 = 0) ∧ ∃ a : Nat, a ≤ 200 ∧ (tsF f g sh w i).2.2.1 k = nI a := by
  intro i
  induction i with
  | zero => exact fun _ => ⟨Nat.le_refl 0, fun k hk => absurd hk (Nat.not_lt_zero k)⟩
  | succ i ih =>
    intro hi
    obtain ⟨h1, h2⟩ := ih (by omega)
    have eg : g i - sh i = nI (pg g i - q i) := by rw [hs i (by omega), h.gp i (by omega), pk_sub (hq i (by omega))]
    have hp2 := h.p2 i (by omega)
    obtain ⟨v, hv, e1, e2⟩ := h.kn i (by omega)
    have eT : tsF f g sh w (i + 1) = if 0 < g i - sh i then ((tsF f g sh w i).1 + 1, upd (tsF f g sh w i).2.1 (tsF f g sh w i).1 (f i), upd (tsF f g sh w i).2.2.1 (tsF f g sh w i).1 (g i - sh i), upd (tsF f g sh w i).2.2.2 (f i).toNatClampNeg ((tsF f g sh w i).2.2.2 (f i).toNatClampNeg + sh i)) else ((tsF f g sh w i).1, (tsF f g sh w i).2.1, (tsF f g sh w i).2.2.1, upd (tsF f g sh w i).2.2.2 (f i).toNatClampNeg ((tsF f g sh w i).2.2.2 (f i).toNatClampNeg + sh i)) := rfl
    rw [eT]
    split
    · refine ⟨by show (tsF f g sh w i).1 + 1 ≤ i + 1; omega, fun k hk => ?_⟩
      have hk : k < (tsF f g sh w i).1 + 1 := hk
      show (∃ v, v < nb ∧ upd (tsF f g sh w i).2.1 (tsF f g sh w i).1 (f i) k = nI v ∧ ¬ (bz v).2.1 = 0) ∧ ∃ a : Nat, a ≤ 200 ∧ upd (tsF f g sh w i).2.2.1 (tsF f g sh w i).1 (g i - sh i) k = nI a
      by_cases e : k = (tsF f g sh w i).1
      · rw [← e, pk_us, pk_us]
        exact ⟨⟨v, hv, e1, e2⟩, pg g i - q i, by omega, eg⟩
      · rw [pk_un e, pk_un e]
        exact h2 k (by omega)
    · exact ⟨by show (tsF f g sh w i).1 ≤ i + 1; omega, h2⟩
/-- a charge takes its parts off the pile -/
theorem RB_charge (h : RB nb n bz bm f g ym) {c : Nat} (hc0 : 0 < nsm (pg g) n) (hc1 : c ≤ nsm (pg g) n) {F sh w : Nat → Int32} (hF : ∀ j, j < n → F j = nI (cutN (pg g) n c j)) (hS : ∀ j, j < n → sh j = nI (cutN (pg g) n c j)) (hw : ∀ j, j < 6 → w j = 0) : (dsF f g F (fun _ => 0) ym n).1 = (tsF f g sh w n).1 ∧ RB nb (tsF f g sh w n).1 bz bm (tsF f g sh w n).2.1 (tsF f g sh w n).2.2.1 (dsF f g F (fun _ => 0) ym n).2.2 ∧ ∀ j, j < 6 → (dsF f g F (fun _ => 0) ym n).2.1 j = (tsF f g sh w n).2.2.2 j := by
  have hcu := (cutN_I hc0 hc1).1
  obtain ⟨t1, t2, t3⟩ := dsF_ts (f := f) (g := g) (F := F) (pa := fun _ => 0) (sh := sh) (w := w) (ym := ym) (n := n) (fun j hj => (hF j hj).trans (hS j hj).symm) (fun j hj => (hw j hj).symm) (fun k hk => by obtain ⟨v, h1, h2⟩ := h.f6 k hk; exact ⟨v, Nat.lt_of_lt_of_le h1 h.nb6, h2⟩) (Nat.le_refl n)
  obtain ⟨i1, i2⟩ := tsF_I h (w := w) hS hcu (Nat.le_refl n)
  have h8 := h.n8
  refine ⟨t1, ⟨h.nb6, by omega, fun k hk => (i2 k hk).1, h.k01, h.bm6, h.fr, h.ox, fun k hk => ?_⟩, t3⟩
  obtain ⟨y0, y1⟩ := t2 k (by rw [t1]; exact hk)
  exact ⟨y0, y1, (i2 k hk).2⟩
end RBs
