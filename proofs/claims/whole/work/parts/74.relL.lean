/-! ===== the class beside the model: lots and silos ===== -/
def lgR (z : LV) : Prop := z.1 2 = -1 ∨ ((∃ s : Nat, s < 2 ∧ z.1 2 = nI s) ∧ (∃ a : Nat, a ≤ 9 ∧ z.1 0 = nI a) ∧ (∃ a : Nat, a ≤ 9 ∧ z.1 1 = nI a) ∧ z.1 3 = mx 1 (mxSum z.2.2.2.1))
def RLo (nl : Nat) (lz : Nat → LV) (li : Nat → Nat) (mz : Nat → MV) (lb Nl : Nat) : Prop := nl ≤ 12 ∧ alOk Nl nl ∧ loR nl lz li mz lb ∧ skR nl lz ∧ ∀ j, j < nl → lgR (lz j)
/-- how many of n lots were ground into a silo -/
def cntG (lz : Nat → LV) (j : Nat) : Nat → Nat
  | 0 => 0
  | n + 1 => if (lz n).1 2 = nI j then cntG lz j n + 1 else cntG lz j n
def RS (nl : Nat) (lz : Nat → LV) (sz : Nat → SV) (rm : Nat → Nat → Int32) (ir sh : Nat → Int32) : Prop :=
  ∀ j, j < 2 → (sz j).1 ≤ cntG lz j nl ∧ ((sz j).2.1 = 0 ∨ (sz j).2.1 = 1) ∧ ir j = nI (sz j).1 ∧ sh j = (sz j).2.1 ∧ rwR nl (sz j) ∧ ∀ κ, κ < (sz j).1 → rm j κ = (sz j).2.2 κ
theorem cntG_le {lz : Nat → LV} {j : Nat} : ∀ n, cntG lz j n ≤ n
  | 0 => Nat.le_refl 0
  | n + 1 => by
    have := cntG_le (lz := lz) (j := j) n
    show (if (lz n).1 2 = nI j then cntG lz j n + 1 else cntG lz j n) ≤ n + 1
    split <;> omega
theorem cntG_lt {lz : Nat → LV} {j i : Nat} (h : ¬ (lz i).1 2 = nI j) : ∀ {n : Nat}, i < n → cntG lz j n < n
  | 0, hi => absurd hi (Nat.not_lt_zero i)
  | n + 1, hi => by
    have h1 := cntG_le (lz := lz) (j := j) n
    show (if (lz n).1 2 = nI j then cntG lz j n + 1 else cntG lz j n) < n + 1
    by_cases e : i = n
    · subst e
      rw [if_neg h]
      omega
    · have := cntG_lt h (n := n) (by omega)
      split <;> omega
theorem cntG_eq {lz lz' : Nat → LV} {j : Nat} (h : ∀ k, (lz k).1 2 = (lz' k).1 2) : ∀ n, cntG lz j n = cntG lz' j n
  | 0 => rfl
  | n + 1 => by
    show (if (lz n).1 2 = nI j then cntG lz j n + 1 else cntG lz j n) = (if (lz' n).1 2 = nI j then cntG lz' j n + 1 else cntG lz' j n)
    rw [h n, cntG_eq h n]
theorem cntG_mono {lz : Nat → LV} {j n : Nat} : ∀ {m : Nat}, n ≤ m → cntG lz j n ≤ cntG lz j m
  | 0, h => by rw [show n = 0 by omega]; exact Nat.le_refl _
  | m + 1, h => by
    by_cases e : n = m + 1
    · rw [e]; exact Nat.le_refl _
    · have := cntG_mono (lz := lz) (j := j) (n := n) (m := m) (by omega)
      show cntG lz j n ≤ (if (lz m).1 2 = nI j then cntG lz j m + 1 else cntG lz j m)
      split <;> omega
theorem cntG_ot {lz : Nat → LV} {z : LV} {j i : Nat} (h0 : ¬ (lz i).1 2 = nI j) (h1 : ¬ z.1 2 = nI j) : ∀ n, cntG (va_up lz i z) j n = cntG lz j n
  | 0 => rfl
  | n + 1 => by
    show (if ((va_up lz i z) n).1 2 = nI j then cntG (va_up lz i z) j n + 1 else cntG (va_up lz i z) j n) = (if (lz n).1 2 = nI j then cntG lz j n + 1 else cntG lz j n)
    rw [cntG_ot h0 h1 n]
    by_cases e : n = i
    · rw [e, va_up_self, if_neg h1, if_neg h0]
    · rw [va_up_ne _ _ e]
theorem cntG_up {lz : Nat → LV} {z : LV} {j i : Nat} (h0 : ¬ (lz i).1 2 = nI j) (h1 : z.1 2 = nI j) : ∀ {n : Nat}, (n ≤ i → cntG (va_up lz i z) j n = cntG lz j n) ∧ (i < n → cntG (va_up lz i z) j n = cntG lz j n + 1)
  | 0 => ⟨fun _ => rfl, fun h => absurd h (Nat.not_lt_zero i)⟩
  | n + 1 => by
    obtain ⟨g1, g2⟩ := cntG_up h0 h1 (n := n)
    have eT : cntG (va_up lz i z) j (n + 1) = if ((va_up lz i z) n).1 2 = nI j then cntG (va_up lz i z) j n + 1 else cntG (va_up lz i z) j n := rfl
    have eU : cntG lz j (n + 1) = if (lz n).1 2 = nI j then cntG lz j n + 1 else cntG lz j n := rfl
    rw [eT, eU]
    refine ⟨fun h => ?_, fun h => ?_⟩
    · rw [va_up_ne _ _ (show n ≠ i by omega), g1 (by omega)]
    · by_cases e : n = i
      · subst e; rw [va_up_self, if_pos h1, if_neg h0, g1 (Nat.le_refl _)]
      · rw [va_up_ne _ _ e, g2 (by omega)]
        split <;> rfl
theorem nI_m1 {s : Nat} (h : s < 2) : ¬ (-1 : Int32) = nI s := by
  rcases (show s = 0 ∨ s = 1 by omega) with rfl | rfl <;> decide
theorem ltGr_0 {x : Int32} (h : ltGr x = 0) : x = -1 := by
  unfold ltGr at h
  by_cases e : x = -1
  · exact e
  · rw [if_neg e] at h; exact absurd h (by decide)
theorem ltGr_n {x : Int32} (h : ¬ ltGr x = 0) : ¬ x = -1 := fun e => h (by unfold ltGr; rw [if_pos e])
section RLs
variable {nl : Nat} {lz : Nat → LV} {li : Nat → Nat} {mz : Nat → MV} {lb Nl : Nat} {sz : Nat → SV} {rm : Nat → Nat → Int32} {ir sh : Nat → Int32}
theorem RLo.n12 (h : RLo nl lz li mz lb Nl) : nl ≤ 12 := h.1
theorem RLo.lk (h : RLo nl lz li mz lb Nl) : alOk Nl nl := h.2.1
theorem RLo.lo (h : RLo nl lz li mz lb Nl) : loR nl lz li mz lb := h.2.2.1
theorem RLo.sk (h : RLo nl lz li mz lb Nl) : skR nl lz := h.2.2.2.1
theorem RLo.lg (h : RLo nl lz li mz lb Nl) : ∀ j, j < nl → lgR (lz j) := h.2.2.2.2
theorem RLo.liN (h : RLo nl lz li mz lb Nl) {NC : Nat} (hb : lb ≤ NC) : ∀ j, j < nl → li j < NC := fun j hj => Nat.lt_of_lt_of_le (h.lo.1 j hj).1 hb
theorem RLo.lt (h : RLo nl lz li mz lb Nl) : ∀ j, j < nl → ltR (lz j) (mz (li j)) := fun j hj => (h.lo.1 j hj).2.1
theorem RLo.fb (h : RLo nl lz li mz lb Nl) : ∀ κ, κ < nl → ∀ j, j < 3 → fdB ((lz κ).2.1 j) := fun j hj => (h.lo.1 j hj).2.2
theorem RLo.g7 (h : RLo nl lz li mz lb Nl) : ∀ i, i < nl → (mz (li i)).1 7 = (lz i).1 2 := fun i hi => ((h.lt i hi).2.2.2.1).symm
theorem RS.c12 (hS : RS nl lz sz rm ir sh) (h : RLo nl lz li mz lb Nl) : ∀ j, j < 2 → (sz j).1 ≤ 12 := fun j hj => by
  have h1 := (hS j hj).1
  have h2 := cntG_le (lz := lz) (j := j) nl
  have h3 := h.n12
  omega
theorem RS.s01 (hS : RS nl lz sz rm ir sh) : ∀ j, j < 2 → (sz j).2.1 = 0 ∨ (sz j).2.1 = 1 := fun j hj => (hS j hj).2.1
theorem RS.ir_ (hS : RS nl lz sz rm ir sh) : ∀ j, j < 2 → ir j = nI (sz j).1 := fun j hj => (hS j hj).2.2.1
theorem RS.sh_ (hS : RS nl lz sz rm ir sh) : ∀ j, j < 2 → sh j = (sz j).2.1 := fun j hj => (hS j hj).2.2.2.1
theorem RS.sh01 (hS : RS nl lz sz rm ir sh) : ∀ j, j < 2 → sh j = 0 ∨ sh j = 1 := fun j hj => by rw [hS.sh_ j hj]; exact hS.s01 j hj
theorem RS.rw_ (hS : RS nl lz sz rm ir sh) : ∀ j, j < 2 → rwR nl (sz j) := fun j hj => (hS j hj).2.2.2.2.1
theorem RS.rm_ (hS : RS nl lz sz rm ir sh) : ∀ j, j < 2 → ∀ κ, κ < (sz j).1 → rm j κ = (sz j).2.2 κ := fun j hj => (hS j hj).2.2.2.2.2
theorem grind_hz (hS : RS nl lz sz rm ir sh) (h : RLo nl lz li mz lb Nl) : ∀ i, i < nl → ltGr ((lz i).1 2) = 0 → ∀ j, j < 2 → (sz j).1 < 12 := fun i hi hg j hj => by
  have h1 := (hS j hj).1
  have h2 := cntG_lt (lz := lz) (j := j) (i := i) (by rw [ltGr_0 hg]; exact nI_m1 hj) hi
  have h3 := h.n12
  omega
theorem grind_hcn (hS : RS nl lz sz rm ir sh) (h : RLo nl lz li mz lb Nl) : ∀ i, i < nl → (mz (li i)).1 7 = -1 → ∀ j, j < 2 → (sz j).1 < 12 := fun i hi hg j hj => by
  rw [h.g7 i hi] at hg
  exact grind_hz hS h i hi (by unfold ltGr; rw [if_pos hg]) j hj
theorem cube_hsj (h : RLo nl lz li mz lb Nl) : ∀ i, i < nl → ¬ (mz (li i)).1 7 = -1 → ((lz i).1 2).toNatClampNeg < 2 ∧ (mz (li i)).1 7 = nI ((lz i).1 2).toNatClampNeg := fun i hi hg => by
  rw [h.g7 i hi] at hg ⊢
  rcases h.lg i hi with e | ⟨⟨s, hs, e⟩, -⟩
  · exact absurd e hg
  · rw [e, nI_clamp (by omega)]
    exact ⟨hs, rfl⟩
theorem rIt_I {S : KS} {du : Int32} (hnl : nl ≤ 12) : ∀ t, nl ≤ (rIt S nl lz du t).1 ∧ (rIt S nl lz du t).1 ≤ 12 ∧ (∀ j, ((rIt S nl lz du t).2.1 j).1 = (lz j).1) ∧ ∀ j, j < nl → (rIt S nl lz du t).2.1 j = lz j
  | 0 => ⟨Nat.le_refl _, hnl, fun _ => rfl, fun _ _ => rfl⟩
  | t + 1 => by
    obtain ⟨h1, h2, h3, h4⟩ := rIt_I hnl (S := S) (du := du) t
    have eT : rIt S nl lz du (t + 1) = if kmR ((kIt t S).1 2) (kIt t S).2.2.1 = 0 then rIt S nl lz du t else (stN (rIt S nl lz du t).1, stL (rIt S nl lz du t).1 (rIt S nl lz du t).2.1 (kIt (t + 1) S).2.2.2.2.1, stD (rIt S nl lz du t).1 (rIt S nl lz du t).2.2.1, (rIt S nl lz du t).2.2.2 + 1) := rfl
    rw [eT]
    split
    · exact ⟨h1, h2, h3, h4⟩
    · generalize rIt S nl lz du t = R at h1 h2 h3 h4 ⊢
      refine ⟨?_, ?_, fun j => ?_, fun j hj => ?_⟩
      · show nl ≤ stN R.1
        unfold stN
        split <;> omega
      · show stN R.1 ≤ 12
        unfold stN
        split <;> omega
      · show ((stL R.1 R.2.1 (kIt (t + 1) S).2.2.2.2.1) j).1 = (lz j).1
        unfold stL
        split
        · by_cases e : j = R.1
          · rw [e, va_up_self]
            exact h3 R.1
          · rw [va_up_ne _ _ e]
            exact h3 j
        · exact h3 j
      · show (stL R.1 R.2.1 (kIt (t + 1) S).2.2.2.2.1) j = lz j
        unfold stL
        split
        · rw [va_up_ne _ _ (show j ≠ R.1 by omega)]
          exact h4 j hj
        · exact h4 j hj
theorem RLo_run (h : RLo nl lz li mz lb Nl) {S : KS} {du : Int32} {k : Nat} {l2 : Nat → Nat} {mt : Nat → MV} {lt N2 : Nat} (h2 : alOk N2 (rIt S nl lz du k).1) (hL : loR (rIt S nl lz du k).1 (rIt S nl lz du k).2.1 l2 mt lt) : RLo (rIt S nl lz du k).1 (rIt S nl lz du k).2.1 l2 mt lt N2 := by
  obtain ⟨i1, i2, i3, i4⟩ := rIt_I (S := S) (lz := lz) (du := du) h.n12 k
  refine ⟨i2, h2, hL, fun j hj => ?_, fun j hj => ?_⟩
  · by_cases e : j < nl
    · rw [i4 j e]; exact h.sk j e
    · refine ⟨0, by omega, ?_⟩
      rw [i3 j]
      exact (h.lo.2.2 j (by omega) (by omega)).2.2.2.1
  · by_cases e : j < nl
    · rw [i4 j e]; exact h.lg j e
    · refine Or.inl ?_
      rw [i3 j]
      exact (h.lo.2.2 j (by omega) (by omega)).2.2.1
theorem RS_run (hS : RS nl lz sz rm ir sh) (hnl : nl ≤ 12) {S : KS} {du : Int32} {k : Nat} : RS (rIt S nl lz du k).1 (rIt S nl lz du k).2.1 sz rm ir sh := fun j hj => by
  obtain ⟨i1, i2, i3, i4⟩ := rIt_I (S := S) (lz := lz) (du := du) hnl k
  obtain ⟨h1, h2, h3, h4, h5, h6⟩ := hS j hj
  refine ⟨?_, h2, h3, h4, fun κ hκ => ?_, h6⟩
  · rw [cntG_eq (lz' := lz) (fun κ => by rw [i3 κ])]
    exact Nat.le_trans h1 (cntG_mono i1)
  · obtain ⟨v, hv, ev⟩ := h5 κ hκ
    exact ⟨v, by omega, ev⟩
/-- the kiln doesn't see what lies under lb -/
theorem RK_low {it : Nat} {S : KS} {ci : Nat → Nat} {NC Nw : Nat} {St : KS} (h : RK it S ci mz NC lb Nw St) {mt : Nat → MV} (hm : ∀ j, lb ≤ j → mt j = mz j) : RK it S ci mt NC lb Nw St := by
  obtain ⟨⟨a1, a2, a3, a4, a5, a6, a7, a8⟩, h2⟩ := h
  refine ⟨⟨a1, a2, a3, fun k hk hp => ?_, a5, fun i hi => ?_, a7, a8⟩, h2⟩
  · obtain ⟨q1, q2, q3⟩ := a4 k hk hp
    exact ⟨q1, q2, by rw [hm _ q1]; exact q3⟩
  · obtain ⟨q1, q2⟩ := a6 i hi
    exact ⟨q1, by rw [hm _ (by omega)]; exact q2⟩
theorem RK.lbN {it : Nat} {S : KS} {ci : Nat → Nat} {NC Nw : Nat} {St : KS} (h : RK it S ci mz NC lb Nw St) : lb ≤ NC := by have := h.1.2.1; omega
theorem moAll_S {z : CV} {y : MV} (h : cmR z y) : mx 1 (mxSum z.2.1) = moAll y.2.1 := by
  obtain ⟨-, -, -, -, -, e0, e1, e2, e3⟩ := h
  show mx 1 (z.2.1 0 + z.2.1 1 + (z.2.1 2 + z.2.1 3)) = mx 1 (y.2.1 0 + y.2.1 1 + y.2.1 2 + y.2.1 3)
  rw [e0, e1, e2, e3, ← Int32.add_assoc]
theorem mxSum_nat {z : CV} (h : chN z) : ∃ a : Nat, 1 ≤ a ∧ a ≤ 800 ∧ mx 1 (mxSum z.2.1) = nI a := by
  obtain ⟨r, f, s, b, a, o0, o1, o2, o3, -, -, -, -, -, e0, e1, e2, e3, -, -, l0, l1, l2, l3⟩ := h
  have e : mxSum z.2.1 = nI (o0 + o1 + (o2 + o3)) := by
    show z.2.1 0 + z.2.1 1 + (z.2.1 2 + z.2.1 3) = _
    rw [e0, e1, e2, e3, nI_add, nI_add, nI_add]
  rw [e]
  show ∃ a : Nat, 1 ≤ a ∧ a ≤ 800 ∧ mx (nI 1) (nI (o0 + o1 + (o2 + o3))) = nI a
  unfold mx
  split
  · rename_i h9
    have := nlt h9
    exact ⟨_, by omega, by omega, rfl⟩
  · exact ⟨1, by omega, by omega, rfl⟩
theorem RLo_grind (h : RLo nl lz li mz lb Nl) {i s : Nat} (hi : i < nl) {x y : Int32} (hx : inR 1 9 x) (hy : inR 0 9 y) (hs : s < 2) : RLo nl (va_up lz i (ltGround x y (nI s) (lz i))) li (va_up mz (li i) (mvG (mz (li i)) x y (nI s))) lb Nl := by
  have hlt := h.lt i hi
  obtain ⟨⟨c1, c2, c3⟩, e0, e1, e2, e4, e5⟩ := id hlt
  refine ⟨h.n12, h.lk, loR_upd h.lo hi ⟨⟨c1, c2, c3⟩, rfl, rfl, rfl, moAll_S c2, e5⟩ (h.fb i hi), fun j hj => ?_, fun j hj => ?_⟩
  · by_cases e : j = i
    · rw [e, va_up_self]
      obtain ⟨a, -, ha, ea⟩ := mxSum_nat c1
      exact ⟨a, by omega, ea⟩
    · rw [va_up_ne _ _ e]; exact h.sk j hj
  · by_cases e : j = i
    · rw [e, va_up_self]
      obtain ⟨a, -, ha, ea⟩ := inR_of1 (K := 1) (M := 9) hx
      obtain ⟨b, hb, eb⟩ := inR_of (M := 9) hy
      exact Or.inr ⟨⟨s, hs, rfl⟩, ⟨a, ha, ea⟩, ⟨b, hb, eb⟩, rfl⟩
    · rw [va_up_ne _ _ e]; exact h.lg j hj
theorem RS_grind (hS : RS nl lz sz rm ir sh) {i s : Nat} (hi : i < nl) (hg : (lz i).1 2 = -1) {x y : Int32} (hs : s < 2) : RS nl (va_up lz i (ltGround x y (nI s) (lz i))) (va_up sz s ((sz s).1 + 1, (sz s).2.1, upd (sz s).2.2 (sz s).1 (nI i))) (va_up rm s (upd (rm s) (sz s).1 (nI i))) (upd ir s (nI ((sz s).1 + 1))) sh := fun j hj => by
  obtain ⟨h1, h2, h3, h4, h5, h6⟩ := hS j hj
  by_cases e : j = s
  · subst e
    rw [va_up_self, va_up_self, pk_us]
    refine ⟨?_, h2, rfl, h4, fun κ hκ => ?_, fun κ hκ => ?_⟩
    · rw [(cntG_up (z := ltGround x y (nI j) (lz i)) (j := j) (by rw [hg]; exact nI_m1 hj) rfl).2 hi]
      show (sz j).1 + 1 ≤ _
      omega
    · have hκ : κ < (sz j).1 + 1 := hκ
      show ∃ v, v < nl ∧ upd (sz j).2.2 (sz j).1 (nI i) κ = nI v
      by_cases e2 : κ = (sz j).1
      · rw [e2, pk_us]; exact ⟨i, hi, rfl⟩
      · rw [pk_un e2]; exact h5 κ (by omega)
    · have hκ : κ < (sz j).1 + 1 := hκ
      show upd (rm j) (sz j).1 (nI i) κ = upd (sz j).2.2 (sz j).1 (nI i) κ
      by_cases e2 : κ = (sz j).1
      · rw [e2, pk_us, pk_us]
      · rw [pk_un e2, pk_un e2]; exact h6 κ (by omega)
  · rw [va_up_ne _ _ e, va_up_ne _ _ e, pk_un e]
    refine ⟨?_, h2, h3, h4, h5, h6⟩
    rw [cntG_ot (z := ltGround x y (nI s) (lz i)) (j := j) (by rw [hg]; exact nI_m1 hj) (fun q => e (nI_inj (show nI s = nI j from q)).symm)]
    exact h1
theorem tkI_I {w0 : SK} : ∀ t, (tkI nl t w0).2.2.1.1 ≤ w0.2.2.1.1 ∧ (tkI nl t w0).2.2.1.2.1 = w0.2.2.1.2.1 ∧ ∀ j, ((tkI nl t w0).2.2.2 j).1 0 = (w0.2.2.2 j).1 0 ∧ ((tkI nl t w0).2.2.2 j).1 1 = (w0.2.2.2 j).1 1 ∧ ((tkI nl t w0).2.2.2 j).1 2 = (w0.2.2.2 j).1 2 ∧ ((tkI nl t w0).2.2.2 j).1 3 = (w0.2.2.2 j).1 3 ∧ ((tkI nl t w0).2.2.2 j).2 = (w0.2.2.2 j).2
  | 0 => ⟨Nat.le_refl _, rfl, fun _ => ⟨rfl, rfl, rfl, rfl, rfl⟩⟩
  | t + 1 => by
    obtain ⟨h1, h2, h3⟩ := tkI_I (w0 := w0) t
    show (tkS nl (tkI nl t w0)).2.2.1.1 ≤ _ ∧ (tkS nl (tkI nl t w0)).2.2.1.2.1 = _ ∧ ∀ j, ((tkS nl (tkI nl t w0)).2.2.2 j).1 0 = _ ∧ ((tkS nl (tkI nl t w0)).2.2.2 j).1 1 = _ ∧ ((tkS nl (tkI nl t w0)).2.2.2 j).1 2 = _ ∧ ((tkS nl (tkI nl t w0)).2.2.2 j).1 3 = _ ∧ ((tkS nl (tkI nl t w0)).2.2.2 j).2 = _
    generalize tkI nl t w0 = s at h1 h2 h3 ⊢
    unfold tkS
    split
    · generalize (tkX s).toNatClampNeg = i
      refine ⟨?_, ?_, fun j => ?_⟩
      · show (if (s.2.2.2 i).1 4 - tkK s i = 0 then siRem s.2.2.1 else s.2.2.1).1 ≤ _
        split
        · show s.2.2.1.1 - 1 ≤ _
          omega
        · exact h1
      · show (if (s.2.2.2 i).1 4 - tkK s i = 0 then siRem s.2.2.1 else s.2.2.1).2.1 = _
        split
        · exact h2
        · exact h2
      · show ((va_up s.2.2.2 i (ltSold (tkK s i) (s.2.2.2 i))) j).1 0 = _ ∧ ((va_up s.2.2.2 i (ltSold (tkK s i) (s.2.2.2 i))) j).1 1 = _ ∧ ((va_up s.2.2.2 i (ltSold (tkK s i) (s.2.2.2 i))) j).1 2 = _ ∧ ((va_up s.2.2.2 i (ltSold (tkK s i) (s.2.2.2 i))) j).1 3 = _ ∧ ((va_up s.2.2.2 i (ltSold (tkK s i) (s.2.2.2 i))) j).2 = _
        by_cases e : j = i
        · rw [e, va_up_self]
          exact h3 i
        · rw [va_up_ne _ _ e]
          exact h3 j
    · exact ⟨h1, h2, h3⟩
theorem RLo_sell (h : RLo nl lz li mz lb Nl) {x : Int32} {i : Nat} {w : SK} (hw : w = tkI nl 12 (x, 0, sz i, lz)) {mt : Nat → MV} {ρ : Nat → Int32} (hs : selR nl lb li mz w mt ρ) : RLo nl w.2.2.2 li mt lb Nl := by
  obtain ⟨i1, i2, i3⟩ := tkI_I (nl := nl) (w0 := (x, 0, sz i, lz)) 12
  rw [← hw] at i1 i2 i3
  refine ⟨h.n12, h.lk, hs.2.2.2.1, hs.2.1, fun j hj => ?_⟩
  obtain ⟨j0, j1, j2, j3, j4⟩ := i3 j
  have hg := h.lg j hj
  show (w.2.2.2 j).1 2 = -1 ∨ ((∃ s : Nat, s < 2 ∧ (w.2.2.2 j).1 2 = nI s) ∧ (∃ a : Nat, a ≤ 9 ∧ (w.2.2.2 j).1 0 = nI a) ∧ (∃ a : Nat, a ≤ 9 ∧ (w.2.2.2 j).1 1 = nI a) ∧ (w.2.2.2 j).1 3 = mx 1 (mxSum (w.2.2.2 j).2.2.2.1))
  rw [j0, j1, j2, j3, j4]
  exact hg
theorem RS_sell (hS : RS nl lz sz rm ir sh) {x : Int32} {i : Nat} {w : SK} (hw : w = tkI nl 12 (x, 0, sz i, lz)) {mt : Nat → MV} {ρ : Nat → Int32} (hs : selR nl lb li mz w mt ρ) : RS nl w.2.2.2 (va_up sz i w.2.2.1) (va_up rm i ρ) (upd ir i (nI w.2.2.1.1)) sh := fun j hj => by
  obtain ⟨i1, i2, i3⟩ := tkI_I (nl := nl) (w0 := (x, 0, sz i, lz)) 12
  rw [← hw] at i1 i2 i3
  obtain ⟨h1, h2, h3, h4, h5, h6⟩ := hS j hj
  rw [cntG_eq (lz' := lz) (fun κ => (i3 κ).2.2.1)]
  by_cases e : j = i
  · subst e
    rw [va_up_self, va_up_self, pk_us]
    exact ⟨Nat.le_trans i1 h1, by rw [i2]; exact h2, rfl, by rw [i2]; exact h4, hs.2.2.1, hs.2.2.2.2.2⟩
  · rw [va_up_ne _ _ e, va_up_ne _ _ e, pk_un e]
    exact ⟨h1, h2, h3, h4, h5, h6⟩
theorem RS_open (hS : RS nl lz sz rm ir sh) {i : Nat} : RS nl lz (va_up sz i ((sz i).1, 0, (sz i).2.2)) rm ir (upd sh i 0) := fun j hj => by
  obtain ⟨h1, h2, h3, h4, h5, h6⟩ := hS j hj
  by_cases e : j = i
  · subst e
    rw [va_up_self, pk_us]
    exact ⟨h1, Or.inl rfl, h3, rfl, h5, h6⟩
  · rw [va_up_ne _ _ e, pk_un e]
    exact ⟨h1, h2, h3, h4, h5, h6⟩
end RLs
