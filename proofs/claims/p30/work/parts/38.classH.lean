/-! ===== the best charge ===== -/
theorem mxRight_copy {tm cm : Nat → Int32} {x y z : Int32} : mxRight (mxBins (mxCopy tm cm) x y z) = mxRight (mxBins cm x y z) := rfl
def RT (cm : Nat → Int32) (o t h : Nat) : Prop := mxRight (mxBins cm (nI o) (nI t) (nI h)) = 1
/-- none is right that comes before the bins o, t -/
def noR (cm : Nat → Int32) (A o t : Nat) : Prop := ∀ o' t' h : Nat, o' ≤ 3 → t' ≤ 3 → h ≤ 3 → o' + t' + h = A → (o' < o ∨ o' = o ∧ t' < t) → ¬ RT cm o' t' h
/-- the first right one of so many added -/
def fstR (cm : Nat → Int32) (A : Nat) (r : Int32) : Prop := (∃ o t h : Nat, o ≤ 3 ∧ t ≤ 3 ∧ h ≤ 3 ∧ o + t + h = A ∧ RT cm o t h ∧ noR cm A o t ∧ r = nI (100 * o + 10 * t + h)) ∨ (r = -1 ∧ noR cm A 4 0)
theorem noR_0 {cm : Nat → Int32} {A : Nat} : noR cm A 0 0 := fun o' t' h _ _ _ _ hh => by omega
theorem noR_step {cm : Nat → Int32} {A o t : Nat} (h : noR cm A o t) (hx : ∀ k, k ≤ 3 → o + t + k = A → ¬ RT cm o t k) : noR cm A o (t + 1) := fun o' t' k h1 h2 h3 h4 h5 => by
  by_cases e : o' = o ∧ t' = t
  · obtain ⟨rfl, rfl⟩ := e
    exact hx k h3 h4
  · exact h o' t' k h1 h2 h3 h4 (by omega)
theorem noR_next {cm : Nat → Int32} {A o : Nat} (h : noR cm A o 4) : noR cm A (o + 1) 0 := fun o' t' k h1 h2 h3 h4 h5 => h o' t' k h1 h2 h3 h4 (by omega)
theorem sub3d : ∀ A, A < 10 → ∀ o, o < 4 → ∀ t, t < 4 → ((nI A - nI o - nI t < nI 0) ↔ A < o + t) ∧ ((nI 3 < nI A - nI o - nI t) ↔ o + t + 3 < A) ∧ (o + t ≤ A → nI A - nI o - nI t = nI (A - o - t)) := by decide +kernel
theorem num3d : ∀ o, o < 4 → ∀ t, t < 4 → ∀ h, h < 4 → (100 : Int32) * nI o + 10 * nI t + nI h = nI (100 * o + 10 * t + h) := by decide +kernel
theorem num3n : ∀ o, o < 4 → ∀ t, t < 4 → ∀ h, h < 4 → ¬ nI (100 * o + 10 * t + h) = -1 := by decide +kernel
theorem fstR_none {cm : Nat → Int32} {A : Nat} {r : Int32} (h : fstR cm A r) (e : r = -1) : noR cm A 4 0 := by
  rcases h with ⟨o, t, k, h1, h2, h3, _, _, _, rfl⟩ | ⟨_, h⟩
  · exact absurd e (num3n o (by omega) t (by omega) k (by omega))
  · exact h
def bstR (cm : Nat → Int32) (r : Int32) : Prop := (∃ A : Nat, A ≤ 9 ∧ fstR cm A r ∧ ¬ r = -1 ∧ ∀ B, B < A → noR cm B 4 0) ∨ (r = -1 ∧ ∀ B, B < 10 → noR cm B 4 0)
set_option maxHeartbeats 4000000 in
set_option maxRecDepth 100000 in
/-- ClinkerWorks.isRightWith -/
theorem c_X8_isRightWith (l : Launch) (G : VG) (X : Nat → Nat) (nb nl : Nat) (du mo cl : Int32) (cm tm : Nat → Int32) (x y w : Int32) : Mi l G yX8_isRightWith cX8_isRightWith 4 .boolean 3 61 0 0 [.ref (X 0), .int x, .int y, .int w] [[(X 0, .inr (9, [.ref (X 1), .int (nI nb), .ref (X 2), .ref (X 6), .ref (X 8), .ref (X 10), .ref (X 14), .ref (X 18), .int (nI nl), .int du, .ref (X 19), .int mo, .ref (X 20), .int cl]))], [(X 6, .inr (5, [.ref (X 7)]))], [(X 7, .inl (G.2.1 0, 4, .inl cm))], [(X 8, .inr (5, [.ref (X 9)]))], [(X 9, .inl (G.2.1 0, 4, .inl tm))]] (fun r u => r = mxRight (mxBins (mxCopy tm cm) x y w) ∧ u = [[(X 0, .inr (9, [.ref (X 1), .int (nI nb), .ref (X 2), .ref (X 6), .ref (X 8), .ref (X 10), .ref (X 14), .ref (X 18), .int (nI nl), .int du, .ref (X 19), .int mo, .ref (X 20), .int cl]))], [(X 6, .inr (5, [.ref (X 7)]))], [(X 7, .inl (G.2.1 0, 4, .inl cm))], [(X 8, .inr (5, [.ref (X 9)]))], [(X 9, .inl (G.2.1 0, 4, .inl (mxBins (mxCopy tm cm) x y w)))]]) := by
  refine Mi_of (by decide) (Nat.le_of_ble_eq_true rfl) (fun pP eE sS mM aA bB tT cC AA QQ hC hr hnm hQ => ?_)
  refine V_aload_n hC dX8_isRightWith_0 0 rfl ?_
  refine V_get hC dX8_isRightWith_1 inAX8 (mem_at 0 0 rfl rfl) rfl 4 (by decide) q276 rfl (v := .ref (X 8)) rfl ?_
  refine V_aload_n hC dX8_isRightWith_4 0 rfl ?_
  refine V_get hC dX8_isRightWith_5 inAX8 (mem_at 0 0 rfl rfl) rfl 3 (by decide) q275 rfl (v := .ref (X 6)) rfl ?_
  refine V_callv hC (V_runV hC (rest := []) [.ref (X 6)] (c_X4_copyFrom l G (X 8) (X 9) tm (X 6) (X 7) cm) [3, 4, 1, 2] rfl (by decide) q604 q462 q463 q22 q464 ⟨by decide, by decide, rfl⟩ ⟨by decide, by decide⟩ (ci := 5) rfl (mem_at 3 0 rfl rfl) rfl (Nat.le_of_ble_eq_true rfl) ⟨by decide, by decide⟩ dX8_isRightWith_8) (is := [3, 4, 1, 2]) rfl [0] (rs := [[(X 0, .inr (9, [.ref (X 1), .int (nI nb), .ref (X 2), .ref (X 6), .ref (X 8), .ref (X 10), .ref (X 14), .ref (X 18), .int (nI nl), .int du, .ref (X 19), .int mo, .ref (X 20), .int cl]))]]) rfl (by decide) (by decide) ?_
  rintro _ rfl
  refine V_aload_n hC dX8_isRightWith_11 0 rfl ?_
  refine V_get hC dX8_isRightWith_12 inAX8 (mem_at 4 0 rfl rfl) rfl 4 (by decide) q276 rfl (v := .ref (X 8)) rfl ?_
  refine V_iload_n hC dX8_isRightWith_15 1 rfl ?_
  refine V_iload_n hC dX8_isRightWith_16 2 rfl ?_
  refine V_iload_n hC dX8_isRightWith_17 3 rfl ?_
  refine V_callv hC (V_runV hC (rest := []) [.int x, .int y, .int w] (c_X4_addBins l G (X 8) (X 9) (mxCopy tm cm) x y w) [0, 1] rfl (by decide) q448 q449 q450 q22 q451 ⟨by decide, by decide, rfl⟩ ⟨by decide, by decide⟩ (ci := 5) rfl (mem_at 0 0 rfl rfl) rfl (Nat.le_of_ble_eq_true rfl) ⟨by decide, by decide⟩ dX8_isRightWith_18) (is := [0, 1]) rfl [2, 3, 4] (rs := [[(X 6, .inr (5, [.ref (X 7)]))], [(X 7, .inl (G.2.1 0, 4, .inl cm))], [(X 0, .inr (9, [.ref (X 1), .int (nI nb), .ref (X 2), .ref (X 6), .ref (X 8), .ref (X 10), .ref (X 14), .ref (X 18), .int (nI nl), .int du, .ref (X 19), .int mo, .ref (X 20), .int cl]))]]) rfl (by decide) (by decide) ?_
  rintro _ rfl
  refine V_aload_n hC dX8_isRightWith_21 0 rfl ?_
  refine V_get hC dX8_isRightWith_22 inAX8 (mem_at 4 0 rfl rfl) rfl 4 (by decide) q276 rfl (v := .ref (X 8)) rfl ?_
  refine V_calli hC (V_runV hC (rest := []) [] (c_X4_isRight l G (X 8) (X 9) (mxBins (mxCopy tm cm) x y w)) [0, 1] rfl (by decide) q574 q575 q576 q22 q577 ⟨by decide, by decide, rfl⟩ ⟨by decide, by decide⟩ (ci := 5) rfl (mem_at 0 0 rfl rfl) rfl (Nat.le_of_ble_eq_true rfl) ⟨by decide, by decide⟩ dX8_isRightWith_25) (is := [0, 1]) rfl [2, 3, 4] (rs := [[(X 6, .inr (5, [.ref (X 7)]))], [(X 7, .inl (G.2.1 0, 4, .inl cm))], [(X 0, .inr (9, [.ref (X 1), .int (nI nb), .ref (X 2), .ref (X 6), .ref (X 8), .ref (X 10), .ref (X 14), .ref (X 18), .int (nI nl), .int du, .ref (X 19), .int mo, .ref (X 20), .int cl]))]]) rfl (by decide) (by decide) ?_
  rintro _ _ ⟨rfl, rfl⟩
  exact V_zret hC hQ hr (mxRight01 _) [4, 2, 3, 0, 1] (u := [[(X 0, .inr (9, [.ref (X 1), .int (nI nb), .ref (X 2), .ref (X 6), .ref (X 8), .ref (X 10), .ref (X 14), .ref (X 18), .int (nI nl), .int du, .ref (X 19), .int mo, .ref (X 20), .int cl]))], [(X 6, .inr (5, [.ref (X 7)]))], [(X 7, .inl (G.2.1 0, 4, .inl cm))], [(X 8, .inr (5, [.ref (X 9)]))], [(X 9, .inl (G.2.1 0, 4, .inl (mxBins (mxCopy tm cm) x y w)))]]) (by decide) rfl (by decide) (by decide) dX8_isRightWith_28 (⟨rfl, rfl⟩)
set_option maxHeartbeats 4000000 in
set_option maxRecDepth 100000 in
/-- ClinkerWorks.smallestRight -/
theorem c_X8_smallestRight (l : Launch) (G : VG) (X : Nat → Nat) (nb nl : Nat) (du mo cl : Int32) (cm tm : Nat → Int32) (A : Nat) (x : Int32) (hA : A ≤ 9) (hx : x = nI A) : Mi l G yX8_smallestRight cX8_smallestRight 5 .int 4 84 0 0 [.ref (X 0), .int x] [[(X 0, .inr (9, [.ref (X 1), .int (nI nb), .ref (X 2), .ref (X 6), .ref (X 8), .ref (X 10), .ref (X 14), .ref (X 18), .int (nI nl), .int du, .ref (X 19), .int mo, .ref (X 20), .int cl]))], [(X 6, .inr (5, [.ref (X 7)]))], [(X 7, .inl (G.2.1 0, 4, .inl cm))], [(X 8, .inr (5, [.ref (X 9)]))], [(X 9, .inl (G.2.1 0, 4, .inl tm))]] (fun r u => ∃ (y : Int32) (tn : Nat → Int32), fstR cm A y ∧ y = r ∧ u = [[(X 0, .inr (9, [.ref (X 1), .int (nI nb), .ref (X 2), .ref (X 6), .ref (X 8), .ref (X 10), .ref (X 14), .ref (X 18), .int (nI nl), .int du, .ref (X 19), .int mo, .ref (X 20), .int cl]))], [(X 6, .inr (5, [.ref (X 7)]))], [(X 7, .inl (G.2.1 0, 4, .inl cm))], [(X 8, .inr (5, [.ref (X 9)]))], [(X 9, .inl (G.2.1 0, 4, .inl tn))]]) := by
  refine Mi_of (by decide) (Nat.le_of_ble_eq_true rfl) (fun pP eE sS mM aA bB tT cC AA QQ hC hr hnm hQ => ?_)
  subst hx
  refine V_iconst hC dX8_smallestRight_0 (v := 0) (by decide) ?_
  refine V_istore_n hC dX8_smallestRight_1 (L' := [(2, .int 0), (0, .ref (X 0)), (1, .int (nI A))]) (by decide) rfl ?_
  have loop1 : ∀ (fuel : Nat) (o : Nat) (tz : Nat → Int32) (ho : o ≤ 4) (hno : noR cm A o 0) (_ : 4 - o < fuel), V pP l eE { frames := 4, cells := 0, slots := 0, locals := 84 } sS mM aA bB tT cC QQ G AA 5 [[(X 0, .inr (9, [.ref (X 1), .int (nI nb), .ref (X 2), .ref (X 6), .ref (X 8), .ref (X 10), .ref (X 14), .ref (X 18), .int (nI nl), .int du, .ref (X 19), .int mo, .ref (X 20), .int cl]))], [(X 6, .inr (5, [.ref (X 7)]))], [(X 7, .inl (G.2.1 0, 4, .inl cm))], [(X 8, .inr (5, [.ref (X 9)]))], [(X 9, .inl (G.2.1 0, 4, .inl tz))]] 0 0 2 [(0, .ref (X 0)), (1, .int (nI A)), (2, .int (nI o))] [] := by
    intro fuel
    induction fuel with
    | zero => intro o tz ho hno hm; exact absurd hm (Nat.not_lt_zero _)
    | succ fuel ih =>
      intro o tz ho hno hm
      have ih1 := ih
      refine V_iload_n hC dX8_smallestRight_2 2 rfl ?_
      refine V_iconst hC dX8_smallestRight_3 (v := 3) (by decide) ?_
      refine V_icmp_gt hC dX8_smallestRight_4 (tgt := 68) (by decide) (fun h2 => ?_) (fun h2 => ?_)
      · have he : o = 4 := by have := nlt (a := 3) (b := o) h2; omega
        have hno4 : noR cm A 4 0 := by rw [← he]; exact hno
        refine V_iconst hC dX8_smallestRight_68 (v := (-1)) (by decide) ?_
        exact V_iret hC hQ hr [0, 1, 2, 3, 4] (u := [[(X 0, .inr (9, [.ref (X 1), .int (nI nb), .ref (X 2), .ref (X 6), .ref (X 8), .ref (X 10), .ref (X 14), .ref (X 18), .int (nI nl), .int du, .ref (X 19), .int mo, .ref (X 20), .int cl]))], [(X 6, .inr (5, [.ref (X 7)]))], [(X 7, .inl (G.2.1 0, 4, .inl cm))], [(X 8, .inr (5, [.ref (X 9)]))], [(X 9, .inl (G.2.1 0, 4, .inl tz))]]) (by decide) rfl (by decide) (by decide) dX8_smallestRight_69 (⟨_, _, Or.inr ⟨rfl, hno4⟩, rfl, rfl⟩)
      · have hlo : o < 4 := by have := nnlt (a := 3) (b := o) h2; omega
        refine V_iconst hC dX8_smallestRight_7 (v := 0) (by decide) ?_
        refine V_istore_n hC dX8_smallestRight_8 (L' := [(3, .int 0), (0, .ref (X 0)), (1, .int (nI A)), (2, .int (nI o))]) (by decide) rfl ?_
        have loop3 : ∀ (fuel : Nat) (t : Nat) (ty : Nat → Int32) (ht : t ≤ 4) (hnt : noR cm A o t) (_ : 4 - t < fuel), V pP l eE { frames := 4, cells := 0, slots := 0, locals := 84 } sS mM aA bB tT cC QQ G AA 5 [[(X 0, .inr (9, [.ref (X 1), .int (nI nb), .ref (X 2), .ref (X 6), .ref (X 8), .ref (X 10), .ref (X 14), .ref (X 18), .int (nI nl), .int du, .ref (X 19), .int mo, .ref (X 20), .int cl]))], [(X 6, .inr (5, [.ref (X 7)]))], [(X 7, .inl (G.2.1 0, 4, .inl cm))], [(X 8, .inr (5, [.ref (X 9)]))], [(X 9, .inl (G.2.1 0, 4, .inl ty))]] 0 0 9 [(0, .ref (X 0)), (1, .int (nI A)), (2, .int (nI o)), (3, .int (nI t))] [] := by
          intro fuel
          induction fuel with
          | zero => intro t ty ht hnt hm; exact absurd hm (Nat.not_lt_zero _)
          | succ fuel ih =>
            intro t ty ht hnt hm
            refine V_iload_n hC dX8_smallestRight_9 3 rfl ?_
            refine V_iconst hC dX8_smallestRight_10 (v := 3) (by decide) ?_
            refine V_icmp_gt hC dX8_smallestRight_11 (tgt := 62) (by decide) (fun h4 => ?_) (fun h4 => ?_)
            · have he : t = 4 := by have := nlt (a := 3) (b := t) h4; omega
              have hnt4 : noR cm A o 4 := by rw [← he]; exact hnt
              refine V_iinc hC dX8_smallestRight_62 (v := nI (o + 1)) (L' := [(2, .int (nI (o + 1))), (0, .ref (X 0)), (1, .int (nI A)), (3, .int (nI t))]) (j := 2) rfl (nI_1 _) (by decide) rfl ?_
              refine V_goto hC dX8_smallestRight_65 (tgt := 2) (by decide) ?_
              refine V_loc (L' := [(0, .ref (X 0)), (1, .int (nI A)), (2, .int (nI (o + 1)))]) [1, 2, 0] rfl ?_
              exact ih1 (o + 1) _ (by omega) (noR_next hnt4) (by omega)
            · have hlt : t < 4 := by have := nnlt (a := 3) (b := t) h4; omega
              have hD := (sub3d A (by omega) o (by omega) t (by omega))
              refine V_iload_n hC dX8_smallestRight_14 1 rfl ?_
              refine V_iload_n hC dX8_smallestRight_15 2 rfl ?_
              refine V_isub hC dX8_smallestRight_16 ?_
              refine V_iload_n hC dX8_smallestRight_17 3 rfl ?_
              refine V_isub hC dX8_smallestRight_18 ?_
              refine V_istore hC dX8_smallestRight_19 (L' := [(4, .int (((nI A) - (nI o)) - (nI t))), (0, .ref (X 0)), (1, .int (nI A)), (2, .int (nI o)), (3, .int (nI t))]) (by decide) rfl ?_
              refine V_iload hC dX8_smallestRight_21 0 rfl ?_
              refine V_if_lt hC dX8_smallestRight_23 (tgt := 56) (by decide) (fun h5 => ?_) (fun h5 => ?_)
              · have hs := noR_step hnt (fun k hk he => by have := hD.1.mp h5; omega)
                refine V_iinc hC dX8_smallestRight_56 (v := nI (t + 1)) (L' := [(3, .int (nI (t + 1))), (4, .int (((nI A) - (nI o)) - (nI t))), (0, .ref (X 0)), (1, .int (nI A)), (2, .int (nI o))]) (j := 4) rfl (nI_1 _) (by decide) rfl ?_
                refine V_goto hC dX8_smallestRight_59 (tgt := 9) (by decide) ?_
                refine V_loc (L' := [(0, .ref (X 0)), (1, .int (nI A)), (2, .int (nI o)), (3, .int (nI (t + 1)))]) [2, 3, 4, 0] rfl ?_
                exact ih (t + 1) _ (by omega) hs (by omega)
              · have hle : o + t ≤ A := by have := mt hD.1.mpr h5; omega
                refine V_iload hC dX8_smallestRight_26 0 rfl ?_
                refine V_iconst hC dX8_smallestRight_28 (v := 3) (by decide) ?_
                refine V_icmp_gt hC dX8_smallestRight_29 (tgt := 56) (by decide) (fun h6 => ?_) (fun h6 => ?_)
                · have hs := noR_step hnt (fun k hk he => by have := hD.2.1.mp h6; omega)
                  refine V_iinc hC dX8_smallestRight_56 (v := nI (t + 1)) (L' := [(3, .int (nI (t + 1))), (4, .int (((nI A) - (nI o)) - (nI t))), (0, .ref (X 0)), (1, .int (nI A)), (2, .int (nI o))]) (j := 4) rfl (nI_1 _) (by decide) rfl ?_
                  refine V_goto hC dX8_smallestRight_59 (tgt := 9) (by decide) ?_
                  refine V_loc (L' := [(0, .ref (X 0)), (1, .int (nI A)), (2, .int (nI o)), (3, .int (nI (t + 1)))]) [2, 3, 4, 0] rfl ?_
                  exact ih (t + 1) _ (by omega) hs (by omega)
                · have h3 : A - o - t ≤ 3 := by have := mt hD.2.1.mpr h6; omega
                  have e3 := hD.2.2 hle
                  refine V_aload_n hC dX8_smallestRight_32 1 rfl ?_
                  refine V_iload_n hC dX8_smallestRight_33 3 rfl ?_
                  refine V_iload_n hC dX8_smallestRight_34 4 rfl ?_
                  refine V_iload hC dX8_smallestRight_35 0 rfl ?_
                  refine V_eqi (y := nI (A - o - t)) (e3) ?_
                  refine V_calli hC (V_runV hC (rest := []) [.int (nI o), .int (nI t), .int (nI (A - o - t))] (c_X8_isRightWith l G X nb nl du mo cl cm ty (nI o) (nI t) (nI (A - o - t))) [0, 1, 2, 3, 4] rfl (by decide) q600 q602 q10 q20 q603 ⟨by decide, by decide, rfl⟩ ⟨by decide, by decide⟩ (ci := 9) rfl (mem_at 0 0 rfl rfl) rfl (Nat.le_of_ble_eq_true rfl) ⟨by decide, by decide⟩ dX8_smallestRight_37) (is := [0, 1, 2, 3, 4]) rfl [] (rs := []) rfl (by decide) (by decide) ?_
                  rintro _ _ ⟨rfl, rfl⟩
                  refine V_if_eq hC dX8_smallestRight_40 (tgt := 56) (by decide) (fun h7 => ?_) (fun h7 => ?_)
                  · have h0 : mxRight (mxBins cm (nI o) (nI t) (nI (A - o - t))) = 0 := h7
                    have hs := noR_step hnt (fun k hk he hr => by have e : k = A - o - t := (by omega); rw [e] at hr; exact absurd (Eq.trans (Eq.symm h0) hr) (by decide))
                    refine V_iinc hC dX8_smallestRight_56 (v := nI (t + 1)) (L' := [(3, .int (nI (t + 1))), (4, .int (((nI A) - (nI o)) - (nI t))), (0, .ref (X 0)), (1, .int (nI A)), (2, .int (nI o))]) (j := 4) rfl (nI_1 _) (by decide) rfl ?_
                    refine V_goto hC dX8_smallestRight_59 (tgt := 9) (by decide) ?_
                    refine V_loc (L' := [(0, .ref (X 0)), (1, .int (nI A)), (2, .int (nI o)), (3, .int (nI (t + 1)))]) [2, 3, 4, 0] rfl ?_
                    exact ih (t + 1) _ (by omega) hs (by omega)
                  · have hR : RT cm o t (A - o - t) := (mxRight01 _).resolve_left h7
                    refine V_bipush hC dX8_smallestRight_43 (v := 100) (by decide) ?_
                    refine V_iload_n hC dX8_smallestRight_45 3 rfl ?_
                    refine V_imul hC dX8_smallestRight_46 ?_
                    refine V_bipush hC dX8_smallestRight_47 (v := 10) (by decide) ?_
                    refine V_iload_n hC dX8_smallestRight_49 4 rfl ?_
                    refine V_imul hC dX8_smallestRight_50 ?_
                    refine V_iadd hC dX8_smallestRight_51 ?_
                    refine V_iload hC dX8_smallestRight_52 0 rfl ?_
                    refine V_eqi (y := nI (A - o - t)) (e3) ?_
                    refine V_iadd hC dX8_smallestRight_54 ?_
                    exact V_iret hC hQ hr [0, 1, 2, 3, 4] (u := [[(X 0, .inr (9, [.ref (X 1), .int (nI nb), .ref (X 2), .ref (X 6), .ref (X 8), .ref (X 10), .ref (X 14), .ref (X 18), .int (nI nl), .int du, .ref (X 19), .int mo, .ref (X 20), .int cl]))], [(X 6, .inr (5, [.ref (X 7)]))], [(X 7, .inl (G.2.1 0, 4, .inl cm))], [(X 8, .inr (5, [.ref (X 9)]))], [(X 9, .inl (G.2.1 0, 4, .inl (mxBins (mxCopy ty cm) (nI o) (nI t) (nI (A - o - t)))))]]) (by decide) rfl (by decide) (by decide) dX8_smallestRight_55 (⟨_, _, Or.inl ⟨o, t, A - o - t, by omega, by omega, h3, by omega, hR, hnt, num3d o (by omega) t (by omega) _ (by omega)⟩, rfl, rfl⟩)
        refine V_loc (L' := [(0, .ref (X 0)), (1, .int (nI A)), (2, .int (nI o)), (3, .int 0)]) [1, 2, 3, 0] rfl ?_
        exact loop3 5 0 tz (by omega) hno (by omega)
  refine V_loc (L' := [(0, .ref (X 0)), (1, .int (nI A)), (2, .int 0)]) [1, 2, 0] rfl ?_
  exact loop1 5 0 tm (by omega) noR_0 (by omega)
set_option maxHeartbeats 4000000 in
set_option maxRecDepth 100000 in
/-- ClinkerWorks.bestCharge -/
theorem c_X8_bestCharge (l : Launch) (hl0 : l.stackTraces = false) (G : VG) (X : Nat → Nat) (nb nl : Nat) (du mo cl : Int32) (B : Nat → Nat → Nat) (bz : Nat → BV) (n : Nat) (f g h : Nat → Int32) (cm tm : Nat → Int32) (x : Int32) (hnb : nb ≤ 6) (hn : n ≤ 8) (hf : ∀ j, j < n → ∃ v : Nat, v < nb ∧ f j = nI v) : Xi l G yX8_bestCharge cX8_bestCharge 4 .int 7 108 3 18 [.ref (X 0), .int x] [[(X 0, .inr (9, [.ref (X 1), .int (nI nb), .ref (X 2), .ref (X 6), .ref (X 8), .ref (X 10), .ref (X 14), .ref (X 18), .int (nI nl), .int du, .ref (X 19), .int mo, .ref (X 20), .int cl]))], [(X 1, .inl (G.2.1 3, 6, .inr (.inr (.inr (.inr (refA 6 B))))))], famW 6 (fun ι => bkP G (B ι) (bz ι)), [(X 2, .inr (6, [.int (nI n), .ref (X 3), .ref (X 4), .ref (X 5)]))], [(X 3, .inl (G.2.1 0, 8, .inl f))], [(X 4, .inl (G.2.1 0, 8, .inl g))], [(X 5, .inl (G.2.1 0, 8, .inl h))], [(X 6, .inr (5, [.ref (X 7)]))], [(X 7, .inl (G.2.1 0, 4, .inl cm))], [(X 8, .inr (5, [.ref (X 9)]))], [(X 9, .inl (G.2.1 0, 4, .inl tm))]] (fun r u => ∃ (c : Nat) (y : Int32) (tn : Nat → Int32), 1 ≤ c ∧ c ≤ 9 ∧ x = nI c ∧ ¬ sm g n < nI c ∧ bstR (mcF bz f (soAll g h n c) cm n) y ∧ y = r ∧ u = [[(X 0, .inr (9, [.ref (X 1), .int (nI nb), .ref (X 2), .ref (X 6), .ref (X 8), .ref (X 10), .ref (X 14), .ref (X 18), .int (nI nl), .int du, .ref (X 19), .int mo, .ref (X 20), .int cl]))], [(X 1, .inl (G.2.1 3, 6, .inr (.inr (.inr (.inr (refA 6 B))))))], famW 6 (fun ι => bkP G (B ι) (bz ι)), [(X 2, .inr (6, [.int (nI n), .ref (X 3), .ref (X 4), .ref (X 5)]))], [(X 3, .inl (G.2.1 0, 8, .inl f))], [(X 4, .inl (G.2.1 0, 8, .inl g))], [(X 5, .inl (G.2.1 0, 8, .inl (soAll g h n c)))], [(X 6, .inr (5, [.ref (X 7)]))], [(X 7, .inl (G.2.1 0, 4, .inl (mcF bz f (soAll g h n c) cm n)))], [(X 8, .inr (5, [.ref (X 9)]))], [(X 9, .inl (G.2.1 0, 4, .inl tn))]]) (fun E => (eIA E ∧ ¬ inR 1 9 x) ∨ (eIS E ∧ inR 1 9 x ∧ sm g n < x)) := by
  refine Xi_of (by decide) (Nat.le_of_ble_eq_true rfl) (fun pP eE sS mM aA bB tT cC AA QQ hC hr hT hQ => ?_)
  refine V_iload_n hC dX8_bestCharge_0 1 rfl ?_
  refine V_iconst hC dX8_bestCharge_1 (v := 1) (by decide) ?_
  refine V_bipush hC dX8_bestCharge_2 (v := 9) (by decide) ?_
  refine V_xcallS hC hT hQ [.int x, .int 1, .int 9] (c_X8_needArgument l hl0 G x 1 9) dX8_bestCharge_4 q319 q320 q20 q321 ⟨by decide, by decide, rfl⟩ ⟨by decide, by decide⟩ rfl (Nat.le_of_ble_eq_true rfl) ⟨by decide, by decide⟩ rfl (by decide) (by decide) [0, 1, 2, 3, 4, 5, 6, 7, 8, 9, 10] (by decide) rfl (fun E hE => Or.inl hE) ?_ (fun u hu => hu.2)
  rintro _ ⟨hk1, rfl⟩ -
  have hk1b := hk1
  obtain ⟨c, hb1, hb2, rfl⟩ := inR_of1 (K := 1) (M := 9) hk1
  refine V_aload_n hC dX8_bestCharge_7 0 rfl ?_
  refine V_get hC dX8_bestCharge_8 inAX8 (mem_at 0 0 rfl rfl) rfl 2 (by decide) q274 rfl (v := .ref (X 2)) rfl ?_
  refine V_calli hC (V_runV hC (rest := []) [] (c_X5_total l G (X 2) (X 3) (X 4) (X 5) n f g h hn) [3, 4, 5, 6] rfl (by decide) q390 q391 q392 q21 q393 ⟨by decide, by decide, rfl⟩ ⟨by decide, by decide⟩ (ci := 6) rfl (mem_at 3 0 rfl rfl) rfl (Nat.le_of_ble_eq_true rfl) ⟨by decide, by decide⟩ dX8_bestCharge_11) (is := [3, 4, 5, 6]) rfl [0, 1, 2, 7, 8, 9, 10] (rs := [[(X 0, .inr (9, [.ref (X 1), .int (nI nb), .ref (X 2), .ref (X 6), .ref (X 8), .ref (X 10), .ref (X 14), .ref (X 18), .int (nI nl), .int du, .ref (X 19), .int mo, .ref (X 20), .int cl]))], [(X 1, .inl (G.2.1 3, 6, .inr (.inr (.inr (.inr (refA 6 B))))))], famW 6 (fun ι => bkP G (B ι) (bz ι)), [(X 6, .inr (5, [.ref (X 7)]))], [(X 7, .inl (G.2.1 0, 4, .inl cm))], [(X 8, .inr (5, [.ref (X 9)]))], [(X 9, .inl (G.2.1 0, 4, .inl tm))]]) rfl (by decide) (by decide) ?_
  rintro _ _ ⟨rfl, rfl⟩
  refine V_iload_n hC dX8_bestCharge_14 1 rfl ?_
  refine V_icmp_ge hC dX8_bestCharge_15 (tgt := 29) (by decide) (fun h2 => ?_) (fun h2 => ?_)
  · have hsm := i32_nlt h2
    refine V_aload_n hC dX8_bestCharge_29 0 rfl ?_
    refine V_iload_n hC dX8_bestCharge_30 1 rfl ?_
    refine V_callv hC (V_runV hC (rest := []) [.int (nI c)] (c_X8_mixCut l G X nb nl du mo cl B bz n f g h cm c (nI c) hnb hn hb2 rfl hf) [4, 5, 6, 0, 1, 2, 3, 7, 8] rfl (by decide) q414 q416 q1 q20 q417 ⟨by decide, by decide, rfl⟩ ⟨by decide, by decide⟩ (ci := 9) rfl (mem_at 4 0 rfl rfl) rfl (Nat.le_of_ble_eq_true rfl) ⟨by decide, by decide⟩ dX8_bestCharge_31) (is := [4, 5, 6, 0, 1, 2, 3, 7, 8]) rfl [9, 10] (rs := [[(X 8, .inr (5, [.ref (X 9)]))], [(X 9, .inl (G.2.1 0, 4, .inl tm))]]) rfl (by decide) (by decide) ?_
    rintro _ rfl
    refine V_iconst hC dX8_bestCharge_34 (v := 0) (by decide) ?_
    refine V_istore_n hC dX8_bestCharge_35 (L' := [(2, .int 0), (0, .ref (X 0)), (1, .int (nI c))]) (by decide) rfl ?_
    have loop3 : ∀ (fuel : Nat) (a : Nat) (ty : Nat → Int32) (ha : a ≤ 10) (hno : ∀ B, B < a → noR (mcF bz f (soAll g h n c) cm n) B 4 0) (_ : 10 - a < fuel), V pP l eE { frames := 7, cells := 3, slots := 18, locals := 108 } sS mM aA bB tT cC QQ G AA 4 [[(X 0, .inr (9, [.ref (X 1), .int (nI nb), .ref (X 2), .ref (X 6), .ref (X 8), .ref (X 10), .ref (X 14), .ref (X 18), .int (nI nl), .int du, .ref (X 19), .int mo, .ref (X 20), .int cl]))], [(X 1, .inl (G.2.1 3, 6, .inr (.inr (.inr (.inr (refA 6 B))))))], famW 6 (fun ι => bkP G (B ι) (bz ι)), [(X 2, .inr (6, [.int (nI n), .ref (X 3), .ref (X 4), .ref (X 5)]))], [(X 3, .inl (G.2.1 0, 8, .inl f))], [(X 4, .inl (G.2.1 0, 8, .inl g))], [(X 5, .inl (G.2.1 0, 8, .inl (soAll g h n c)))], [(X 6, .inr (5, [.ref (X 7)]))], [(X 7, .inl (G.2.1 0, 4, .inl (mcF bz f (soAll g h n c) cm n)))], [(X 8, .inr (5, [.ref (X 9)]))], [(X 9, .inl (G.2.1 0, 4, .inl ty))]] 1 6 36 [(0, .ref (X 0)), (1, .int (nI c)), (2, .int (nI a))] [] := by
      intro fuel
      induction fuel with
      | zero => intro a ty ha hno hm; exact absurd hm (Nat.not_lt_zero _)
      | succ fuel ih =>
        intro a ty ha hno hm
        refine V_iload_n hC dX8_bestCharge_36 2 rfl ?_
        refine V_bipush hC dX8_bestCharge_37 (v := 9) (by decide) ?_
        refine V_icmp_gt hC dX8_bestCharge_39 (tgt := 61) (by decide) (fun h4 => ?_) (fun h4 => ?_)
        · have he : a = 10 := by have := nlt (a := 9) (b := a) h4; omega
          refine V_iconst hC dX8_bestCharge_61 (v := (-1)) (by decide) ?_
          exact V_xiret hC hQ hr [0, 1, 2, 3, 4, 5, 6, 7, 8, 9, 10] (u := [[(X 0, .inr (9, [.ref (X 1), .int (nI nb), .ref (X 2), .ref (X 6), .ref (X 8), .ref (X 10), .ref (X 14), .ref (X 18), .int (nI nl), .int du, .ref (X 19), .int mo, .ref (X 20), .int cl]))], [(X 1, .inl (G.2.1 3, 6, .inr (.inr (.inr (.inr (refA 6 B))))))], famW 6 (fun ι => bkP G (B ι) (bz ι)), [(X 2, .inr (6, [.int (nI n), .ref (X 3), .ref (X 4), .ref (X 5)]))], [(X 3, .inl (G.2.1 0, 8, .inl f))], [(X 4, .inl (G.2.1 0, 8, .inl g))], [(X 5, .inl (G.2.1 0, 8, .inl (soAll g h n c)))], [(X 6, .inr (5, [.ref (X 7)]))], [(X 7, .inl (G.2.1 0, 4, .inl (mcF bz f (soAll g h n c) cm n)))], [(X 8, .inr (5, [.ref (X 9)]))], [(X 9, .inl (G.2.1 0, 4, .inl ty))]]) (by decide) rfl (by decide) (by decide) dX8_bestCharge_62 (⟨c, _, _, hb1, hb2, rfl, hsm, Or.inr ⟨rfl, fun B hB => hno B (by omega)⟩, rfl, rfl⟩)
        · have hla : a ≤ 9 := nnlt (a := 9) (b := a) h4
          refine V_aload_n hC dX8_bestCharge_42 0 rfl ?_
          refine V_iload_n hC dX8_bestCharge_43 2 rfl ?_
          refine V_calli hC (V_runV hC (rest := []) [.int (nI a)] (c_X8_smallestRight l G X nb nl du mo cl (mcF bz f (soAll g h n c) cm n) ty a (nI a) hla rfl) [0, 7, 8, 9, 10] rfl (by decide) q596 q598 q9 q20 q599 ⟨by decide, by decide, rfl⟩ ⟨by decide, by decide⟩ (ci := 9) rfl (mem_at 0 0 rfl rfl) rfl (Nat.le_of_ble_eq_true rfl) ⟨by decide, by decide⟩ dX8_bestCharge_44) (is := [0, 7, 8, 9, 10]) rfl [1, 2, 3, 4, 5, 6] (rs := [[(X 1, .inl (G.2.1 3, 6, .inr (.inr (.inr (.inr (refA 6 B))))))], famW 6 (fun ι => bkP G (B ι) (bz ι)), [(X 2, .inr (6, [.int (nI n), .ref (X 3), .ref (X 4), .ref (X 5)]))], [(X 3, .inl (G.2.1 0, 8, .inl f))], [(X 4, .inl (G.2.1 0, 8, .inl g))], [(X 5, .inl (G.2.1 0, 8, .inl (soAll g h n c)))]]) rfl (by decide) (by decide) ?_
          rintro _ _ ⟨y5, tn5, hff, rfl, rfl⟩
          refine V_istore_n hC dX8_bestCharge_47 (L' := [(3, .int y5), (0, .ref (X 0)), (1, .int (nI c)), (2, .int (nI a))]) (by decide) rfl ?_
          refine V_iload_n hC dX8_bestCharge_48 0 rfl ?_
          refine V_iconst hC dX8_bestCharge_49 (v := (-1)) (by decide) ?_
          refine V_icmp_eq hC dX8_bestCharge_50 (tgt := 55) (by decide) (fun h6 => ?_) (fun h6 => ?_)
          · have hy1 := h6
            refine V_iinc hC dX8_bestCharge_55 (v := nI (a + 1)) (L' := [(2, .int (nI (a + 1))), (3, .int y5), (0, .ref (X 0)), (1, .int (nI c))]) (j := 3) rfl (nI_1 _) (by decide) rfl ?_
            refine V_goto hC dX8_bestCharge_58 (tgt := 36) (by decide) ?_
            refine V_loc (L' := [(0, .ref (X 0)), (1, .int (nI c)), (2, .int (nI (a + 1)))]) [2, 3, 0] rfl ?_
            refine V_sub [0, 5, 6, 7, 8, 9, 10, 1, 2, 3, 4] (by decide) (u := [[(X 0, .inr (9, [.ref (X 1), .int (nI nb), .ref (X 2), .ref (X 6), .ref (X 8), .ref (X 10), .ref (X 14), .ref (X 18), .int (nI nl), .int du, .ref (X 19), .int mo, .ref (X 20), .int cl]))], [(X 1, .inl (G.2.1 3, 6, .inr (.inr (.inr (.inr (refA 6 B))))))], famW 6 (fun ι => bkP G (B ι) (bz ι)), [(X 2, .inr (6, [.int (nI n), .ref (X 3), .ref (X 4), .ref (X 5)]))], [(X 3, .inl (G.2.1 0, 8, .inl f))], [(X 4, .inl (G.2.1 0, 8, .inl g))], [(X 5, .inl (G.2.1 0, 8, .inl (soAll g h n c)))], [(X 6, .inr (5, [.ref (X 7)]))], [(X 7, .inl (G.2.1 0, 4, .inl (mcF bz f (soAll g h n c) cm n)))], [(X 8, .inr (5, [.ref (X 9)]))], [(X 9, .inl (G.2.1 0, 4, .inl tn5))]]) rfl ?_
            exact ih (a + 1) _ (by omega) (fun B hB => if e : B < a then hno B e else by obtain rfl : B = a := (by omega); exact fstR_none hff hy1) (by omega)
          · have hy1 := h6
            refine V_iload_n hC dX8_bestCharge_53 0 rfl ?_
            exact V_xiret hC hQ hr [0, 5, 6, 7, 8, 9, 10, 1, 2, 3, 4] (u := [[(X 0, .inr (9, [.ref (X 1), .int (nI nb), .ref (X 2), .ref (X 6), .ref (X 8), .ref (X 10), .ref (X 14), .ref (X 18), .int (nI nl), .int du, .ref (X 19), .int mo, .ref (X 20), .int cl]))], [(X 1, .inl (G.2.1 3, 6, .inr (.inr (.inr (.inr (refA 6 B))))))], famW 6 (fun ι => bkP G (B ι) (bz ι)), [(X 2, .inr (6, [.int (nI n), .ref (X 3), .ref (X 4), .ref (X 5)]))], [(X 3, .inl (G.2.1 0, 8, .inl f))], [(X 4, .inl (G.2.1 0, 8, .inl g))], [(X 5, .inl (G.2.1 0, 8, .inl (soAll g h n c)))], [(X 6, .inr (5, [.ref (X 7)]))], [(X 7, .inl (G.2.1 0, 4, .inl (mcF bz f (soAll g h n c) cm n)))], [(X 8, .inr (5, [.ref (X 9)]))], [(X 9, .inl (G.2.1 0, 4, .inl tn5))]]) (by decide) rfl (by decide) (by decide) dX8_bestCharge_54 (⟨c, _, _, hb1, hb2, rfl, hsm, Or.inl ⟨a, hla, hff, hy1, hno⟩, rfl, rfl⟩)
    refine V_loc (L' := [(0, .ref (X 0)), (1, .int (nI c)), (2, .int 0)]) [1, 2, 0] rfl ?_
    exact loop3 11 0 tm (by omega) (fun B hB => absurd hB (Nat.not_lt_zero B)) (by omega)
  · have hlo : sm g n < nI c := i32_lt h2
    exact V_throwSW hC hT hl0 hQ (cls := "java/lang/IllegalStateException") (text := "too few PARTS on the PILE") (by decide +kernel) q398 q34 (by decide +kernel) excW_is (by decide +kernel) dX8_bestCharge_18 dX8_bestCharge_21 dX8_bestCharge_22 dX8_bestCharge_25 dX8_bestCharge_28 (by decide) (Nat.le_of_ble_eq_true rfl) (by decide) (by decide) (by decide) (by decide) [4, 5, 6, 0, 1, 2, 3, 7, 8, 9, 10] (by decide) rfl (Or.inr ⟨rfl, hk1b, hlo⟩)
