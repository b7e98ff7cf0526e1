/-! ===== the model: what burns ===== -/
theorem i32_sub_inc (a b : Int32) : a - b + 1 = a + 1 - b := by
  rw [Int32.sub_eq_add_neg, Int32.sub_eq_add_neg, Int32.add_assoc, Int32.add_comm (-b) 1, ← Int32.add_assoc]
theorem nI_sub_lt {a b d : Nat} (ha : a < 2 ^ 29 := by omega) (hb : b < 2 ^ 29 := by omega) (hd : d < 2 ^ 29 := by omega) : nI a - nI b < nI d ↔ a < d + b := by
  rw [Int32.lt_iff_toInt_lt, pk_sub_toInt (by omega) (by omega), nI_toInt (by omega)]
  omega
theorem nI_sub_le {a b d : Nat} (ha : a < 2 ^ 29 := by omega) (hb : b < 2 ^ 29 := by omega) (hd : d < 2 ^ 29 := by omega) : nI d ≤ nI a - nI b ↔ d + b ≤ a := by
  rw [Int32.le_iff_toInt_le, pk_sub_toInt (by omega) (by omega), nI_toInt (by omega)]
  omega
theorem mx0_sub {u k : Nat} (hu : u < 2 ^ 29 := by omega) (hk : k < 2 ^ 29 := by omega) : mx 0 (nI u - nI k) = nI (u - k) := by
  unfold mx
  by_cases h : k < u
  · rw [if_pos, pk_sub (by omega)]
    show nI 0 < nI u - nI k
    rw [pk_sub (by omega)]
    exact nI_lt (by omega) (by omega)
  · rw [if_neg, show u - k = 0 by omega]; rfl
    intro h2
    rw [Int32.lt_iff_toInt_lt, pk_sub_toInt (by omega) (by omega)] at h2
    have h3 : (0 : Int32).toInt = 0 := rfl
    omega
theorem mn_nI {a b : Nat} (ha : a < 2 ^ 31 := by omega) (hb : b < 2 ^ 31 := by omega) : mn (nI a) (nI b) = nI (min a b) := by
  unfold mn
  by_cases h : b < a
  · rw [if_pos (nI_lt h (by omega)), show min a b = b by omega]
  · rw [if_neg (nI_nlt (by omega) (by omega)), show min a b = a by omega]
theorem nI_subE {a b d : Nat} (h : b ≤ a) (e : a - b = d) : nI a - nI b = nI d := by rw [pk_sub h, e]
/-- a charge's numbers -/
def chN (x : CV) : Prop := ∃ r f s b a o0 o1 o2 o3 : Nat, x.1 1 = nI r ∧ x.1 2 = nI f ∧ x.1 3 = nI s ∧ x.1 4 = nI b ∧ x.1 5 = nI a ∧ x.2.1 0 = nI o0 ∧ x.2.1 1 = nI o1 ∧ x.2.1 2 = nI o2 ∧ x.2.1 3 = nI o3 ∧ r + f + 2 * b + 3 * a = o0 ∧ s + b + a = o1 ∧ o0 ≤ 200 ∧ o1 ≤ 200 ∧ o2 ≤ 200 ∧ o3 ≤ 200
/-- a charge of the class, and of the model -/
def cmR (x : CV) (z : MV) : Prop := x.1 1 = z.1 0 ∧ x.1 2 = z.1 1 ∧ x.1 3 = z.1 2 ∧ x.1 4 = z.1 3 ∧ x.1 5 = z.1 4 ∧ x.2.1 0 = z.2.1 0 ∧ x.2.1 1 = z.2.1 1 ∧ x.2.1 2 = z.2.1 2 ∧ x.2.1 3 = z.2.1 3
def mvS (z : MV) (y : CV) : MV := (hv9 (y.1 1) (y.1 2) (y.1 3) (y.1 4) (y.1 5) (z.1 5) (z.1 6) (z.1 7) (z.1 8), z.2)
theorem cmR_S {x y : CV} {z : MV} (h : cmR x z) (e : y.2.1 = x.2.1) : cmR y (mvS z y) := by
  obtain ⟨-, -, -, -, -, h⟩ := h
  refine ⟨rfl, rfl, rfl, rfl, rfl, ?_⟩
  rw [e]
  exact h
def bT1 (u r f s : Nat) : Nat := min (u - 6) (min ((f + min r (u - 4)) / 2) s)
def bF2 (u r f s : Nat) : Nat := f + min r (u - 4) - 2 * bT1 u r f s
def bT2 (u r f s b m : Nat) : Nat := if u ≤ 8 then 0 else min (u - 8 + m / 4) (min (bF2 u r f s) (b + bT1 u r f s))
theorem bn_A {u r : Nat} (hu : u ≤ 1000) (hr : r ≤ 1000) : bnA (nI u) (nI r) = nI (min r (u - 4)) := by
  unfold bnA
  by_cases h : u < 5
  · rw [if_pos (show nI u < 5 from nI_lt (b := 5) h (by omega)), show min r (u - 4) = 0 by omega]; rfl
  · rw [if_neg (show ¬ nI u < 5 from nI_nlt (b := 5) (by omega) (by omega)), show nI u - 4 = nI (u - 4) from pk_sub (b := 4) (by omega), mn_nI]
theorem bn_B {u r f s : Nat} (hu : u ≤ 1000) (hr : r ≤ 1000) (hf : f ≤ 1000) (hs : s ≤ 1000) : bnB1 (nI u) (nI r) (nI f) (nI s) = nI (bT1 u r f s) := by
  unfold bnB1 bnFree1 bnB
  rw [bn_A hu hr, nI_add]
  by_cases h : u < 7
  · rw [if_pos (show nI u < 7 from nI_lt (b := 7) h (by omega)), show bT1 u r f s = 0 by unfold bT1; omega]; rfl
  · rw [if_neg (show ¬ nI u < 7 from nI_nlt (b := 7) (by omega) (by omega)), show nI u - 6 = nI (u - 6) from pk_sub (b := 6) (by omega), show nI (f + min r (u - 4)) / 2 = nI ((f + min r (u - 4)) / 2) from pk_div (d := 2) (by omega) (by omega) (by omega), mn_nI, mn_nI]
    rfl
theorem bn_F {u r f s : Nat} (hu : u ≤ 1000) (hr : r ≤ 1000) (hf : f ≤ 1000) (hs : s ≤ 1000) : bnFree2 (nI u) (nI r) (nI f) (nI s) = nI (bF2 u r f s) := by
  unfold bnFree2
  rw [bn_B hu hr hf hs]
  unfold bnFree1
  rw [bn_A hu hr, nI_add, show (2 : Int32) * nI (bT1 u r f s) = nI (2 * bT1 u r f s) from pk_mul 2 _, pk_sub (by unfold bT1; omega)]
  rfl
theorem bn_C {u r f s b m : Nat} (hu : u ≤ 1000) (hr : r ≤ 1000) (hf : f ≤ 1000) (hs : s ≤ 1000) (hb : b ≤ 1000) (hm : m ≤ 1000) : bnC1 (nI u) (nI r) (nI f) (nI s) (nI b) (nI m) = nI (bT2 u r f s b m) := by
  unfold bnC1 bnC bT2
  have h1 : bT1 u r f s ≤ 1000 := by unfold bT1; omega
  have h2 : bF2 u r f s ≤ 2000 := by unfold bF2; omega
  rw [bn_F hu hr hf hs, bn_B hu hr hf hs, nI_add]
  by_cases h : u < 9
  · rw [if_pos (show nI u < 9 from nI_lt (b := 9) h (by omega)), if_pos (by omega)]; rfl
  · rw [if_neg (show ¬ nI u < 9 from nI_nlt (b := 9) (by omega) (by omega)), if_neg (by omega), show nI u - 8 = nI (u - 8) from pk_sub (b := 8) (by omega), show nI m / 4 = nI (m / 4) from pk_div (d := 4) (by omega) (by omega) (by omega), nI_add, mn_nI, mn_nI]
theorem mcP_eq {G : VG} {q : Nat → Nat} {z : MV} {g : Nat → Int32} (h : ∀ k, k < 9 → z.1 k = g k) : mcP G q z = mcP G q (g, z.2) := by
  unfold mcP
  rw [h 0 (by decide), h 1 (by decide), h 2 (by decide), h 3 (by decide), h 4 (by decide), h 5 (by decide), h 6 (by decide), h 7 (by decide), h 8 (by decide)]
theorem chN_burn {x : CV} {u : Nat} (hu : u ≤ 100) (h : chN x) : chN (chBurn (nI u) x) := by
  obtain ⟨r, f, s, b, a, o0, o1, o2, o3, e1, e2, e3, e4, e5, p0, p1, p2, p3, c1, c2, b0, b1, b2, b3⟩ := h
  have hA : min r (u - 4) ≤ r := Nat.min_le_left _ _
  have hT1 : 2 * bT1 u r f s ≤ f + min r (u - 4) ∧ bT1 u r f s ≤ s := by unfold bT1; omega
  have hT2 : bT2 u r f s b (o2 + o3) ≤ bF2 u r f s ∧ bT2 u r f s b (o2 + o3) ≤ b + bT1 u r f s := by unfold bT2; split <;> omega
  have hF : bF2 u r f s = f + min r (u - 4) - 2 * bT1 u r f s := rfl
  refine ⟨r - min r (u - 4), bF2 u r f s - bT2 u r f s b (o2 + o3), s - bT1 u r f s, b + bT1 u r f s - bT2 u r f s b (o2 + o3), a + bT2 u r f s b (o2 + o3), o0, o1, o2, o3, ?_, ?_, ?_, ?_, ?_, p0, p1, p2, p3, by omega, by omega, b0, b1, b2, b3⟩
  · show x.1 1 - bnA (nI u) (x.1 1) = _
    rw [e1, bn_A (by omega) (by omega), pk_sub hA]
  · show bnFree2 (nI u) (x.1 1) (x.1 2) (x.1 3) - bnC1 (nI u) (x.1 1) (x.1 2) (x.1 3) (x.1 4) (x.2.1 2 + x.2.1 3) = _
    rw [e1, e2, e3, e4, p2, p3, nI_add, bn_F (by omega) (by omega) (by omega) (by omega), bn_C (by omega) (by omega) (by omega) (by omega) (by omega) (by omega), pk_sub hT2.1]
  · show x.1 3 - bnB1 (nI u) (x.1 1) (x.1 2) (x.1 3) = _
    rw [e1, e2, e3, bn_B (by omega) (by omega) (by omega) (by omega), pk_sub hT1.2]
  · show x.1 4 + bnB1 (nI u) (x.1 1) (x.1 2) (x.1 3) - bnC1 (nI u) (x.1 1) (x.1 2) (x.1 3) (x.1 4) (x.2.1 2 + x.2.1 3) = _
    rw [e1, e2, e3, e4, p2, p3, nI_add, bn_B (by omega) (by omega) (by omega) (by omega), bn_C (by omega) (by omega) (by omega) (by omega) (by omega) (by omega), nI_add, pk_sub hT2.2]
  · show x.1 5 + bnC1 (nI u) (x.1 1) (x.1 2) (x.1 3) (x.1 4) (x.2.1 2 + x.2.1 3) = _
    rw [e1, e2, e3, e4, e5, p2, p3, nI_add, bn_C (by omega) (by omega) (by omega) (by omega) (by omega) (by omega), nI_add]
def cpM (z : MV) : MV := (hv9 (z.1 0) (z.1 1) (z.1 2) (z.1 3) (z.1 4) (-1) (-1) (-1) 0, va_cpy z.2.1 (fun _ => 0) 0 0 4, fun _ => 0, upd (upd (upd (fun _ => 0) 0 (-1)) 1 (-1)) 2 (-1))
theorem cmR_cp {x : CV} {z : MV} (h : cmR x z) : cmR x (cpM z) := h
set_option maxHeartbeats 4000000 in
set_option maxRecDepth 100000 in
/-- ClinkerWorksModel$Charge.burn -/
theorem c_X9_burnN (l : Launch) (G : VG) (q : Nat → Nat) (u r f s b a mm A T1 T2 : Nat) (g0 g1 g2 g3 : Int32) (ox pa fo : Nat → Int32) (hu : u ≤ 1000) (hr9 : r ≤ 1000) (hf : f ≤ 1000) (hs : s ≤ 1000) (hb : b ≤ 1000) (ha : a ≤ 1000) (hmm : mm ≤ 1000) (hmx : ox 2 + ox 3 = nI mm) (hA : A = min r (u - 4)) (hT1 : T1 = min (u - 6) (min ((f + A) / 2) s)) (hT2 : T2 = if u ≤ 8 then 0 else min (u - 8 + mm / 4) (min (f + A - 2 * T1) (b + T1))) : Mi l G yX9_burn cX9_burn 4 .int 1 20 0 0 [.ref (q 0), .int (nI u)] [mcP G q (hv9 (nI r) (nI f) (nI s) (nI b) (nI a) g0 g1 g2 g3, ox, pa, fo)] (fun w v => w = nI A ∧ v = [mcP G q (hv9 (nI (r - A)) (nI (f + A - 2 * T1 - T2)) (nI (s - T1)) (nI (b + T1 - T2)) (nI (a + T2)) g0 g1 g2 g3, ox, pa, fo)]) := by
  refine Mi_of (by decide) (Nat.le_of_ble_eq_true rfl) (fun pP eE sS mM aA bB tT cC AA QQ hC hr hnm hQ => ?_)
  have hT2b : T2 ≤ 3000 := by split at hT2 <;> omega
  refine V_aload_n hC dX9_burn_0 0 rfl ?_
  refine V_get hC dX9_burn_1 inAX9 (mem_at 0 0 rfl rfl) rfl 2 (by decide) q990 rfl (v := .int (nI r)) rfl ?_
  refine V_iconst hC dX9_burn_4 (v := 0) (by decide) ?_
  refine V_iload_n hC dX9_burn_5 1 rfl ?_
  refine V_iconst hC dX9_burn_6 (v := 4) (by decide) ?_
  refine V_isub hC dX9_burn_7 ?_
  refine V_mmax hC q1343 q694 q65 q695 (by decide) (Nat.le_of_ble_eq_true rfl) (by decide) (by decide) dX9_burn_8 ?_
  refine V_eqi (y := nI (u - 4)) (mx0_sub (k := 4)) ?_
  refine V_mmin hC q1344 q629 q65 q630 (by decide) (Nat.le_of_ble_eq_true rfl) (by decide) (by decide) dX9_burn_11 ?_
  refine V_eqi (y := nI A) (by show mn (nI r) (nI (u - 4)) = nI A; rw [mn_nI, hA]) ?_
  refine V_istore_n hC dX9_burn_14 (L' := [(2, .int (nI A)), (0, .ref (q 0)), (1, .int (nI u))]) (by decide) rfl ?_
  refine V_aload_n hC dX9_burn_15 1 rfl ?_
  refine V_dup hC dX9_burn_16 rfl ?_
  refine V_get hC dX9_burn_17 inAX9 (mem_at 0 0 rfl rfl) rfl 2 (by decide) q990 rfl (v := .int (nI r)) rfl ?_
  refine V_iload_n hC dX9_burn_20 0 rfl ?_
  refine V_isub hC dX9_burn_21 ?_
  refine V_eqi (y := nI (r - A)) (pk_sub (by omega)) ?_
  refine V_put hC dX9_burn_22 inAX9 tyX9 tyX9_ok nmX9 0 0 rfl rfl rfl 2 (by decide) q990 rfl rfl (rfl) (rfl) (Nat.le_of_ble_eq_true rfl) (ps' := [mcP G q (hv9 (nI (r - A)) (nI f) (nI s) (nI b) (nI a) g0 g1 g2 g3, ox, pa, fo)]) rfl ?_
  refine V_aload_n hC dX9_burn_25 1 rfl ?_
  refine V_dup hC dX9_burn_26 rfl ?_
  refine V_get hC dX9_burn_27 inAX9 (mem_at 0 0 rfl rfl) rfl 3 (by decide) q993 rfl (v := .int (nI f)) rfl ?_
  refine V_iload_n hC dX9_burn_30 0 rfl ?_
  refine V_iadd hC dX9_burn_31 ?_
  refine V_eqi (y := nI (f + A)) (nI_add _ _) ?_
  refine V_put hC dX9_burn_32 inAX9 tyX9 tyX9_ok nmX9 0 0 rfl rfl rfl 3 (by decide) q993 rfl rfl (rfl) (rfl) (Nat.le_of_ble_eq_true rfl) (ps' := [mcP G q (hv9 (nI (r - A)) (nI (f + A)) (nI s) (nI b) (nI a) g0 g1 g2 g3, ox, pa, fo)]) rfl ?_
  refine V_bipush hC dX9_burn_35 (v := 6) (by decide) ?_
  refine V_istore_n hC dX9_burn_37 (L' := [(3, .int 6), (2, .int (nI A)), (0, .ref (q 0)), (1, .int (nI u))]) (by decide) rfl ?_
  have loop1 : ∀ (fuel : Nat) (t : Nat) (ht : t ≤ T1) (_ : T1 - t < fuel), V pP l eE { frames := 1, cells := 0, slots := 0, locals := 20 } sS mM aA bB tT cC QQ G AA 4 [mcP G q (hv9 (nI (r - A)) (nI (f + A - 2 * t)) (nI (s - t)) (nI (b + t)) (nI a) g0 g1 g2 g3, ox, pa, fo)] 0 0 38 [(0, .ref (q 0)), (1, .int (nI u)), (2, .int (nI A)), (3, .int (nI (6 + t)))] [] := by
    intro fuel
    induction fuel with
    | zero => intro t ht hm; exact absurd hm (Nat.not_lt_zero _)
    | succ fuel ih =>
      intro t ht hm
      refine V_iload_n hC dX9_burn_38 3 rfl ?_
      refine V_iload_n hC dX9_burn_39 1 rfl ?_
      refine V_icmp_ge hC dX9_burn_40 (tgt := 94) (by decide) (fun h2 => ?_) (fun h2 => ?_)
      · have h9 := nle h2
        have he : t = T1 := by omega
        rw [he]
        refine V_bipush hC dX9_burn_94 (v := 8) (by decide) ?_
        refine V_aload_n hC dX9_burn_96 0 rfl ?_
        refine V_calli hC (V_runV hC (rest := [.int 8]) [] (c_X9_melt l G q (hv9 (nI (r - A)) (nI (f + A - 2 * T1)) (nI (s - T1)) (nI (b + T1)) (nI a) g0 g1 g2 g3, ox, pa, fo)) [0] rfl (by decide) q1345 q1346 q1347 q57 q1348 ⟨by decide, by decide, rfl⟩ ⟨by decide, by decide⟩ (ci := 10) rfl (mem_at 0 0 rfl rfl) rfl (Nat.le_of_ble_eq_true rfl) ⟨by decide, by decide⟩ dX9_burn_97) (is := [0]) rfl [] (rs := []) rfl (by decide) (by decide) ?_
        rintro _ _ ⟨rfl, rfl⟩
        refine V_eqi (y := nI mm) (hmx) ?_
        refine V_iconst hC dX9_burn_100 (v := 4) (by decide) ?_
        refine V_idiv hC dX9_burn_101 (by decide) ?_
        refine V_eqi (y := nI (mm / 4)) (pk_div (d := 4) (by omega) (by omega) (by omega)) ?_
        refine V_isub hC dX9_burn_102 ?_
        refine V_istore_n hC dX9_burn_103 (L' := [(3, .int (8 - (nI (mm / 4)))), (0, .ref (q 0)), (1, .int (nI u)), (2, .int (nI A))]) (by decide) rfl ?_
        have loop3 : ∀ (fuel : Nat) (t : Nat) (ht2 : t ≤ T2) (_ : T2 - t < fuel), V pP l eE { frames := 1, cells := 0, slots := 0, locals := 20 } sS mM aA bB tT cC QQ G AA 4 [mcP G q (hv9 (nI (r - A)) (nI (f + A - 2 * T1 - t)) (nI (s - T1)) (nI (b + T1 - t)) (nI (a + t)) g0 g1 g2 g3, ox, pa, fo)] 0 0 104 [(0, .ref (q 0)), (1, .int (nI u)), (2, .int (nI A)), (3, .int (nI (8 + t) - nI (mm / 4)))] [] := by
          intro fuel
          induction fuel with
          | zero => intro t ht2 hm; exact absurd hm (Nat.not_lt_zero _)
          | succ fuel ih =>
            intro t ht2 hm
            refine V_iload_n hC dX9_burn_104 1 rfl ?_
            refine V_bipush hC dX9_burn_105 (v := 8) (by decide) ?_
            refine V_icmp_le hC dX9_burn_107 (tgt := 165) (by decide) (fun h4 => ?_) (fun h4 => ?_)
            · have h9 := nle (b := 8) h4
              have he : t = T2 := by split at hT2 <;> omega
              rw [he]
              refine V_iload_n hC dX9_burn_165 2 rfl ?_
              exact V_iret hC hQ hr [0] (u := [mcP G q (hv9 (nI (r - A)) (nI (f + A - 2 * T1 - T2)) (nI (s - T1)) (nI (b + T1 - T2)) (nI (a + T2)) g0 g1 g2 g3, ox, pa, fo)]) (by decide) rfl (by decide) (by decide) dX9_burn_166 (⟨rfl, rfl⟩)
            · have h4 := nnle (b := 8) h4
              refine V_iload_n hC dX9_burn_110 3 rfl ?_
              refine V_iload_n hC dX9_burn_111 1 rfl ?_
              refine V_icmp_ge hC dX9_burn_112 (tgt := 165) (by decide) (fun h5 => ?_) (fun h5 => ?_)
              · have h9 := (nI_sub_le).mp h5
                have he : t = T2 := by split at hT2 <;> omega
                rw [he]
                refine V_iload_n hC dX9_burn_165 2 rfl ?_
                exact V_iret hC hQ hr [0] (u := [mcP G q (hv9 (nI (r - A)) (nI (f + A - 2 * T1 - T2)) (nI (s - T1)) (nI (b + T1 - T2)) (nI (a + T2)) g0 g1 g2 g3, ox, pa, fo)]) (by decide) rfl (by decide) (by decide) dX9_burn_166 (⟨rfl, rfl⟩)
              · have h5 : ¬ u + mm / 4 ≤ 8 + t := fun q => h5 ((nI_sub_le).mpr q)
                refine V_aload_n hC dX9_burn_115 0 rfl ?_
                refine V_get hC dX9_burn_116 inAX9 (mem_at 0 0 rfl rfl) rfl 3 (by decide) q993 rfl (v := .int (nI (f + A - 2 * T1 - t))) rfl ?_
                refine V_if_le hC dX9_burn_119 (tgt := 165) (by decide) (fun h6 => ?_) (fun h6 => ?_)
                · have h9 := nle (b := 0) h6
                  have he : t = T2 := by split at hT2 <;> omega
                  rw [he]
                  refine V_iload_n hC dX9_burn_165 2 rfl ?_
                  exact V_iret hC hQ hr [0] (u := [mcP G q (hv9 (nI (r - A)) (nI (f + A - 2 * T1 - T2)) (nI (s - T1)) (nI (b + T1 - T2)) (nI (a + T2)) g0 g1 g2 g3, ox, pa, fo)]) (by decide) rfl (by decide) (by decide) dX9_burn_166 (⟨rfl, rfl⟩)
                · have h6 := nnle (b := 0) h6
                  refine V_aload_n hC dX9_burn_122 0 rfl ?_
                  refine V_get hC dX9_burn_123 inAX9 (mem_at 0 0 rfl rfl) rfl 5 (by decide) q997 rfl (v := .int (nI (b + T1 - t))) rfl ?_
                  refine V_if_le hC dX9_burn_126 (tgt := 165) (by decide) (fun h7 => ?_) (fun h7 => ?_)
                  · have h9 := nle (b := 0) h7
                    have he : t = T2 := by split at hT2 <;> omega
                    rw [he]
                    refine V_iload_n hC dX9_burn_165 2 rfl ?_
                    exact V_iret hC hQ hr [0] (u := [mcP G q (hv9 (nI (r - A)) (nI (f + A - 2 * T1 - T2)) (nI (s - T1)) (nI (b + T1 - T2)) (nI (a + T2)) g0 g1 g2 g3, ox, pa, fo)]) (by decide) rfl (by decide) (by decide) dX9_burn_166 (⟨rfl, rfl⟩)
                  · have h7 := nnle (b := 0) h7
                    refine V_aload_n hC dX9_burn_129 0 rfl ?_
                    refine V_dup hC dX9_burn_130 rfl ?_
                    refine V_get hC dX9_burn_131 inAX9 (mem_at 0 0 rfl rfl) rfl 3 (by decide) q993 rfl (v := .int (nI (f + A - 2 * T1 - t))) rfl ?_
                    refine V_iconst hC dX9_burn_134 (v := 1) (by decide) ?_
                    refine V_isub hC dX9_burn_135 ?_
                    refine V_eqi (y := nI (f + A - 2 * T1 - (t + 1))) (nI_subE (b := 1) (by omega) (by omega)) ?_
                    refine V_put hC dX9_burn_136 inAX9 tyX9 tyX9_ok nmX9 0 0 rfl rfl rfl 3 (by decide) q993 rfl rfl (rfl) (rfl) (Nat.le_of_ble_eq_true rfl) (ps' := [mcP G q (hv9 (nI (r - A)) (nI (f + A - 2 * T1 - (t + 1))) (nI (s - T1)) (nI (b + T1 - t)) (nI (a + t)) g0 g1 g2 g3, ox, pa, fo)]) rfl ?_
                    refine V_aload_n hC dX9_burn_139 0 rfl ?_
                    refine V_dup hC dX9_burn_140 rfl ?_
                    refine V_get hC dX9_burn_141 inAX9 (mem_at 0 0 rfl rfl) rfl 5 (by decide) q997 rfl (v := .int (nI (b + T1 - t))) rfl ?_
                    refine V_iconst hC dX9_burn_144 (v := 1) (by decide) ?_
                    refine V_isub hC dX9_burn_145 ?_
                    refine V_eqi (y := nI (b + T1 - (t + 1))) (nI_subE (b := 1) (by omega) (by omega)) ?_
                    refine V_put hC dX9_burn_146 inAX9 tyX9 tyX9_ok nmX9 0 0 rfl rfl rfl 5 (by decide) q997 rfl rfl (rfl) (rfl) (Nat.le_of_ble_eq_true rfl) (ps' := [mcP G q (hv9 (nI (r - A)) (nI (f + A - 2 * T1 - (t + 1))) (nI (s - T1)) (nI (b + T1 - (t + 1))) (nI (a + t)) g0 g1 g2 g3, ox, pa, fo)]) rfl ?_
                    refine V_aload_n hC dX9_burn_149 0 rfl ?_
                    refine V_dup hC dX9_burn_150 rfl ?_
                    refine V_get hC dX9_burn_151 inAX9 (mem_at 0 0 rfl rfl) rfl 6 (by decide) q999 rfl (v := .int (nI (a + t))) rfl ?_
                    refine V_iconst hC dX9_burn_154 (v := 1) (by decide) ?_
                    refine V_iadd hC dX9_burn_155 ?_
                    refine V_eqi (y := nI (a + (t + 1))) (nI_1 _) ?_
                    refine V_put hC dX9_burn_156 inAX9 tyX9 tyX9_ok nmX9 0 0 rfl rfl rfl 6 (by decide) q999 rfl rfl (rfl) (rfl) (Nat.le_of_ble_eq_true rfl) (ps' := [mcP G q (hv9 (nI (r - A)) (nI (f + A - 2 * T1 - (t + 1))) (nI (s - T1)) (nI (b + T1 - (t + 1))) (nI (a + (t + 1))) g0 g1 g2 g3, ox, pa, fo)]) rfl ?_
                    refine V_iinc hC dX9_burn_159 (v := nI (8 + (t + 1)) - nI (mm / 4)) (L' := [(3, .int (nI (8 + (t + 1)) - nI (mm / 4))), (0, .ref (q 0)), (1, .int (nI u)), (2, .int (nI A))]) (j := 3) rfl (by rw [show Int32.ofInt 1 = (1 : Int32) by decide, i32_sub_inc, nI_1]; rfl) (by decide) rfl ?_
                    refine V_goto hC dX9_burn_162 (tgt := 104) (by decide) ?_
                    refine V_loc (L' := [(0, .ref (q 0)), (1, .int (nI u)), (2, .int (nI A)), (3, .int (nI (8 + (t + 1)) - nI (mm / 4)))]) [1, 2, 3, 0] rfl ?_
                    exact ih (t + 1) (by split at hT2 <;> omega) (by split at hT2 <;> omega)
        refine V_loc (L' := [(0, .ref (q 0)), (1, .int (nI u)), (2, .int (nI A)), (3, .int (8 - (nI (mm / 4))))]) [1, 2, 3, 0] rfl ?_
        exact loop3 (T2 + 1) 0 (by omega) (by omega)
      · have h1 := nnle h2
        refine V_aload_n hC dX9_burn_43 0 rfl ?_
        refine V_get hC dX9_burn_44 inAX9 (mem_at 0 0 rfl rfl) rfl 3 (by decide) q993 rfl (v := .int (nI (f + A - 2 * t))) rfl ?_
        refine V_iconst hC dX9_burn_47 (v := 1) (by decide) ?_
        refine V_icmp_le hC dX9_burn_48 (tgt := 94) (by decide) (fun h8 => ?_) (fun h8 => ?_)
        · have h9 := nle (b := 1) h8
          have he : t = T1 := by omega
          rw [he]
          refine V_bipush hC dX9_burn_94 (v := 8) (by decide) ?_
          refine V_aload_n hC dX9_burn_96 0 rfl ?_
          refine V_calli hC (V_runV hC (rest := [.int 8]) [] (c_X9_melt l G q (hv9 (nI (r - A)) (nI (f + A - 2 * T1)) (nI (s - T1)) (nI (b + T1)) (nI a) g0 g1 g2 g3, ox, pa, fo)) [0] rfl (by decide) q1345 q1346 q1347 q57 q1348 ⟨by decide, by decide, rfl⟩ ⟨by decide, by decide⟩ (ci := 10) rfl (mem_at 0 0 rfl rfl) rfl (Nat.le_of_ble_eq_true rfl) ⟨by decide, by decide⟩ dX9_burn_97) (is := [0]) rfl [] (rs := []) rfl (by decide) (by decide) ?_
          rintro _ _ ⟨rfl, rfl⟩
          refine V_eqi (y := nI mm) (hmx) ?_
          refine V_iconst hC dX9_burn_100 (v := 4) (by decide) ?_
          refine V_idiv hC dX9_burn_101 (by decide) ?_
          refine V_eqi (y := nI (mm / 4)) (pk_div (d := 4) (by omega) (by omega) (by omega)) ?_
          refine V_isub hC dX9_burn_102 ?_
          refine V_istore_n hC dX9_burn_103 (L' := [(3, .int (8 - (nI (mm / 4)))), (0, .ref (q 0)), (1, .int (nI u)), (2, .int (nI A))]) (by decide) rfl ?_
          have loop9 : ∀ (fuel : Nat) (t : Nat) (ht2 : t ≤ T2) (_ : T2 - t < fuel), V pP l eE { frames := 1, cells := 0, slots := 0, locals := 20 } sS mM aA bB tT cC QQ G AA 4 [mcP G q (hv9 (nI (r - A)) (nI (f + A - 2 * T1 - t)) (nI (s - T1)) (nI (b + T1 - t)) (nI (a + t)) g0 g1 g2 g3, ox, pa, fo)] 0 0 104 [(0, .ref (q 0)), (1, .int (nI u)), (2, .int (nI A)), (3, .int (nI (8 + t) - nI (mm / 4)))] [] := by
            intro fuel
            induction fuel with
            | zero => intro t ht2 hm; exact absurd hm (Nat.not_lt_zero _)
            | succ fuel ih =>
              intro t ht2 hm
              refine V_iload_n hC dX9_burn_104 1 rfl ?_
              refine V_bipush hC dX9_burn_105 (v := 8) (by decide) ?_
              refine V_icmp_le hC dX9_burn_107 (tgt := 165) (by decide) (fun h10 => ?_) (fun h10 => ?_)
              · have h9 := nle (b := 8) h10
                have he : t = T2 := by split at hT2 <;> omega
                rw [he]
                refine V_iload_n hC dX9_burn_165 2 rfl ?_
                exact V_iret hC hQ hr [0] (u := [mcP G q (hv9 (nI (r - A)) (nI (f + A - 2 * T1 - T2)) (nI (s - T1)) (nI (b + T1 - T2)) (nI (a + T2)) g0 g1 g2 g3, ox, pa, fo)]) (by decide) rfl (by decide) (by decide) dX9_burn_166 (⟨rfl, rfl⟩)
              · have h4 := nnle (b := 8) h10
                refine V_iload_n hC dX9_burn_110 3 rfl ?_
                refine V_iload_n hC dX9_burn_111 1 rfl ?_
                refine V_icmp_ge hC dX9_burn_112 (tgt := 165) (by decide) (fun h11 => ?_) (fun h11 => ?_)
                · have h9 := (nI_sub_le).mp h11
                  have he : t = T2 := by split at hT2 <;> omega
                  rw [he]
                  refine V_iload_n hC dX9_burn_165 2 rfl ?_
                  exact V_iret hC hQ hr [0] (u := [mcP G q (hv9 (nI (r - A)) (nI (f + A - 2 * T1 - T2)) (nI (s - T1)) (nI (b + T1 - T2)) (nI (a + T2)) g0 g1 g2 g3, ox, pa, fo)]) (by decide) rfl (by decide) (by decide) dX9_burn_166 (⟨rfl, rfl⟩)
                · have h5 : ¬ u + mm / 4 ≤ 8 + t := fun q => h11 ((nI_sub_le).mpr q)
                  refine V_aload_n hC dX9_burn_115 0 rfl ?_
                  refine V_get hC dX9_burn_116 inAX9 (mem_at 0 0 rfl rfl) rfl 3 (by decide) q993 rfl (v := .int (nI (f + A - 2 * T1 - t))) rfl ?_
                  refine V_if_le hC dX9_burn_119 (tgt := 165) (by decide) (fun h12 => ?_) (fun h12 => ?_)
                  · have h9 := nle (b := 0) h12
                    have he : t = T2 := by split at hT2 <;> omega
                    rw [he]
                    refine V_iload_n hC dX9_burn_165 2 rfl ?_
                    exact V_iret hC hQ hr [0] (u := [mcP G q (hv9 (nI (r - A)) (nI (f + A - 2 * T1 - T2)) (nI (s - T1)) (nI (b + T1 - T2)) (nI (a + T2)) g0 g1 g2 g3, ox, pa, fo)]) (by decide) rfl (by decide) (by decide) dX9_burn_166 (⟨rfl, rfl⟩)
                  · have h6 := nnle (b := 0) h12
                    refine V_aload_n hC dX9_burn_122 0 rfl ?_
                    refine V_get hC dX9_burn_123 inAX9 (mem_at 0 0 rfl rfl) rfl 5 (by decide) q997 rfl (v := .int (nI (b + T1 - t))) rfl ?_
                    refine V_if_le hC dX9_burn_126 (tgt := 165) (by decide) (fun h13 => ?_) (fun h13 => ?_)
                    · have h9 := nle (b := 0) h13
                      have he : t = T2 := by split at hT2 <;> omega
                      rw [he]
                      refine V_iload_n hC dX9_burn_165 2 rfl ?_
                      exact V_iret hC hQ hr [0] (u := [mcP G q (hv9 (nI (r - A)) (nI (f + A - 2 * T1 - T2)) (nI (s - T1)) (nI (b + T1 - T2)) (nI (a + T2)) g0 g1 g2 g3, ox, pa, fo)]) (by decide) rfl (by decide) (by decide) dX9_burn_166 (⟨rfl, rfl⟩)
                    · have h7 := nnle (b := 0) h13
                      refine V_aload_n hC dX9_burn_129 0 rfl ?_
                      refine V_dup hC dX9_burn_130 rfl ?_
                      refine V_get hC dX9_burn_131 inAX9 (mem_at 0 0 rfl rfl) rfl 3 (by decide) q993 rfl (v := .int (nI (f + A - 2 * T1 - t))) rfl ?_
                      refine V_iconst hC dX9_burn_134 (v := 1) (by decide) ?_
                      refine V_isub hC dX9_burn_135 ?_
                      refine V_eqi (y := nI (f + A - 2 * T1 - (t + 1))) (nI_subE (b := 1) (by omega) (by omega)) ?_
                      refine V_put hC dX9_burn_136 inAX9 tyX9 tyX9_ok nmX9 0 0 rfl rfl rfl 3 (by decide) q993 rfl rfl (rfl) (rfl) (Nat.le_of_ble_eq_true rfl) (ps' := [mcP G q (hv9 (nI (r - A)) (nI (f + A - 2 * T1 - (t + 1))) (nI (s - T1)) (nI (b + T1 - t)) (nI (a + t)) g0 g1 g2 g3, ox, pa, fo)]) rfl ?_
                      refine V_aload_n hC dX9_burn_139 0 rfl ?_
                      refine V_dup hC dX9_burn_140 rfl ?_
                      refine V_get hC dX9_burn_141 inAX9 (mem_at 0 0 rfl rfl) rfl 5 (by decide) q997 rfl (v := .int (nI (b + T1 - t))) rfl ?_
                      refine V_iconst hC dX9_burn_144 (v := 1) (by decide) ?_
                      refine V_isub hC dX9_burn_145 ?_
                      refine V_eqi (y := nI (b + T1 - (t + 1))) (nI_subE (b := 1) (by omega) (by omega)) ?_
                      refine V_put hC dX9_burn_146 inAX9 tyX9 tyX9_ok nmX9 0 0 rfl rfl rfl 5 (by decide) q997 rfl rfl (rfl) (rfl) (Nat.le_of_ble_eq_true rfl) (ps' := [mcP G q (hv9 (nI (r - A)) (nI (f + A - 2 * T1 - (t + 1))) (nI (s - T1)) (nI (b + T1 - (t + 1))) (nI (a + t)) g0 g1 g2 g3, ox, pa, fo)]) rfl ?_
                      refine V_aload_n hC dX9_burn_149 0 rfl ?_
                      refine V_dup hC dX9_burn_150 rfl ?_
                      refine V_get hC dX9_burn_151 inAX9 (mem_at 0 0 rfl rfl) rfl 6 (by decide) q999 rfl (v := .int (nI (a + t))) rfl ?_
                      refine V_iconst hC dX9_burn_154 (v := 1) (by decide) ?_
                      refine V_iadd hC dX9_burn_155 ?_
                      refine V_eqi (y := nI (a + (t + 1))) (nI_1 _) ?_
                      refine V_put hC dX9_burn_156 inAX9 tyX9 tyX9_ok nmX9 0 0 rfl rfl rfl 6 (by decide) q999 rfl rfl (rfl) (rfl) (Nat.le_of_ble_eq_true rfl) (ps' := [mcP G q (hv9 (nI (r - A)) (nI (f + A - 2 * T1 - (t + 1))) (nI (s - T1)) (nI (b + T1 - (t + 1))) (nI (a + (t + 1))) g0 g1 g2 g3, ox, pa, fo)]) rfl ?_
                      refine V_iinc hC dX9_burn_159 (v := nI (8 + (t + 1)) - nI (mm / 4)) (L' := [(3, .int (nI (8 + (t + 1)) - nI (mm / 4))), (0, .ref (q 0)), (1, .int (nI u)), (2, .int (nI A))]) (j := 3) rfl (by rw [show Int32.ofInt 1 = (1 : Int32) by decide, i32_sub_inc, nI_1]; rfl) (by decide) rfl ?_
                      refine V_goto hC dX9_burn_162 (tgt := 104) (by decide) ?_
                      refine V_loc (L' := [(0, .ref (q 0)), (1, .int (nI u)), (2, .int (nI A)), (3, .int (nI (8 + (t + 1)) - nI (mm / 4)))]) [1, 2, 3, 0] rfl ?_
                      exact ih (t + 1) (by split at hT2 <;> omega) (by split at hT2 <;> omega)
          refine V_loc (L' := [(0, .ref (q 0)), (1, .int (nI u)), (2, .int (nI A)), (3, .int (8 - (nI (mm / 4))))]) [1, 2, 3, 0] rfl ?_
          exact loop9 (T2 + 1) 0 (by omega) (by omega)
        · have h2 := nnle (b := 1) h8
          refine V_aload_n hC dX9_burn_51 0 rfl ?_
          refine V_get hC dX9_burn_52 inAX9 (mem_at 0 0 rfl rfl) rfl 4 (by decide) q995 rfl (v := .int (nI (s - t))) rfl ?_
          refine V_if_le hC dX9_burn_55 (tgt := 94) (by decide) (fun h14 => ?_) (fun h14 => ?_)
          · have h9 := nle (b := 0) h14
            have he : t = T1 := by omega
            rw [he]
            refine V_bipush hC dX9_burn_94 (v := 8) (by decide) ?_
            refine V_aload_n hC dX9_burn_96 0 rfl ?_
            refine V_calli hC (V_runV hC (rest := [.int 8]) [] (c_X9_melt l G q (hv9 (nI (r - A)) (nI (f + A - 2 * T1)) (nI (s - T1)) (nI (b + T1)) (nI a) g0 g1 g2 g3, ox, pa, fo)) [0] rfl (by decide) q1345 q1346 q1347 q57 q1348 ⟨by decide, by decide, rfl⟩ ⟨by decide, by decide⟩ (ci := 10) rfl (mem_at 0 0 rfl rfl) rfl (Nat.le_of_ble_eq_true rfl) ⟨by decide, by decide⟩ dX9_burn_97) (is := [0]) rfl [] (rs := []) rfl (by decide) (by decide) ?_
            rintro _ _ ⟨rfl, rfl⟩
            refine V_eqi (y := nI mm) (hmx) ?_
            refine V_iconst hC dX9_burn_100 (v := 4) (by decide) ?_
            refine V_idiv hC dX9_burn_101 (by decide) ?_
            refine V_eqi (y := nI (mm / 4)) (pk_div (d := 4) (by omega) (by omega) (by omega)) ?_
            refine V_isub hC dX9_burn_102 ?_
            refine V_istore_n hC dX9_burn_103 (L' := [(3, .int (8 - (nI (mm / 4)))), (0, .ref (q 0)), (1, .int (nI u)), (2, .int (nI A))]) (by decide) rfl ?_
            have loop15 : ∀ (fuel : Nat) (t : Nat) (ht2 : t ≤ T2) (_ : T2 - t < fuel), V pP l eE { frames := 1, cells := 0, slots := 0, locals := 20 } sS mM aA bB tT cC QQ G AA 4 [mcP G q (hv9 (nI (r - A)) (nI (f + A - 2 * T1 - t)) (nI (s - T1)) (nI (b + T1 - t)) (nI (a + t)) g0 g1 g2 g3, ox, pa, fo)] 0 0 104 [(0, .ref (q 0)), (1, .int (nI u)), (2, .int (nI A)), (3, .int (nI (8 + t) - nI (mm / 4)))] [] := by
              intro fuel
              induction fuel with
              | zero => intro t ht2 hm; exact absurd hm (Nat.not_lt_zero _)
              | succ fuel ih =>
                intro t ht2 hm
                refine V_iload_n hC dX9_burn_104 1 rfl ?_
                refine V_bipush hC dX9_burn_105 (v := 8) (by decide) ?_
                refine V_icmp_le hC dX9_burn_107 (tgt := 165) (by decide) (fun h16 => ?_) (fun h16 => ?_)
                · have h9 := nle (b := 8) h16
                  have he : t = T2 := by split at hT2 <;> omega
                  rw [he]
                  refine V_iload_n hC dX9_burn_165 2 rfl ?_
                  exact V_iret hC hQ hr [0] (u := [mcP G q (hv9 (nI (r - A)) (nI (f + A - 2 * T1 - T2)) (nI (s - T1)) (nI (b + T1 - T2)) (nI (a + T2)) g0 g1 g2 g3, ox, pa, fo)]) (by decide) rfl (by decide) (by decide) dX9_burn_166 (⟨rfl, rfl⟩)
                · have h4 := nnle (b := 8) h16
                  refine V_iload_n hC dX9_burn_110 3 rfl ?_
                  refine V_iload_n hC dX9_burn_111 1 rfl ?_
                  refine V_icmp_ge hC dX9_burn_112 (tgt := 165) (by decide) (fun h17 => ?_) (fun h17 => ?_)
                  · have h9 := (nI_sub_le).mp h17
                    have he : t = T2 := by split at hT2 <;> omega
                    rw [he]
                    refine V_iload_n hC dX9_burn_165 2 rfl ?_
                    exact V_iret hC hQ hr [0] (u := [mcP G q (hv9 (nI (r - A)) (nI (f + A - 2 * T1 - T2)) (nI (s - T1)) (nI (b + T1 - T2)) (nI (a + T2)) g0 g1 g2 g3, ox, pa, fo)]) (by decide) rfl (by decide) (by decide) dX9_burn_166 (⟨rfl, rfl⟩)
                  · have h5 : ¬ u + mm / 4 ≤ 8 + t := fun q => h17 ((nI_sub_le).mpr q)
                    refine V_aload_n hC dX9_burn_115 0 rfl ?_
                    refine V_get hC dX9_burn_116 inAX9 (mem_at 0 0 rfl rfl) rfl 3 (by decide) q993 rfl (v := .int (nI (f + A - 2 * T1 - t))) rfl ?_
                    refine V_if_le hC dX9_burn_119 (tgt := 165) (by decide) (fun h18 => ?_) (fun h18 => ?_)
                    · have h9 := nle (b := 0) h18
                      have he : t = T2 := by split at hT2 <;> omega
                      rw [he]
                      refine V_iload_n hC dX9_burn_165 2 rfl ?_
                      exact V_iret hC hQ hr [0] (u := [mcP G q (hv9 (nI (r - A)) (nI (f + A - 2 * T1 - T2)) (nI (s - T1)) (nI (b + T1 - T2)) (nI (a + T2)) g0 g1 g2 g3, ox, pa, fo)]) (by decide) rfl (by decide) (by decide) dX9_burn_166 (⟨rfl, rfl⟩)
                    · have h6 := nnle (b := 0) h18
                      refine V_aload_n hC dX9_burn_122 0 rfl ?_
                      refine V_get hC dX9_burn_123 inAX9 (mem_at 0 0 rfl rfl) rfl 5 (by decide) q997 rfl (v := .int (nI (b + T1 - t))) rfl ?_
                      refine V_if_le hC dX9_burn_126 (tgt := 165) (by decide) (fun h19 => ?_) (fun h19 => ?_)
                      · have h9 := nle (b := 0) h19
                        have he : t = T2 := by split at hT2 <;> omega
                        rw [he]
                        refine V_iload_n hC dX9_burn_165 2 rfl ?_
                        exact V_iret hC hQ hr [0] (u := [mcP G q (hv9 (nI (r - A)) (nI (f + A - 2 * T1 - T2)) (nI (s - T1)) (nI (b + T1 - T2)) (nI (a + T2)) g0 g1 g2 g3, ox, pa, fo)]) (by decide) rfl (by decide) (by decide) dX9_burn_166 (⟨rfl, rfl⟩)
                      · have h7 := nnle (b := 0) h19
                        refine V_aload_n hC dX9_burn_129 0 rfl ?_
                        refine V_dup hC dX9_burn_130 rfl ?_
                        refine V_get hC dX9_burn_131 inAX9 (mem_at 0 0 rfl rfl) rfl 3 (by decide) q993 rfl (v := .int (nI (f + A - 2 * T1 - t))) rfl ?_
                        refine V_iconst hC dX9_burn_134 (v := 1) (by decide) ?_
                        refine V_isub hC dX9_burn_135 ?_
                        refine V_eqi (y := nI (f + A - 2 * T1 - (t + 1))) (nI_subE (b := 1) (by omega) (by omega)) ?_
                        refine V_put hC dX9_burn_136 inAX9 tyX9 tyX9_ok nmX9 0 0 rfl rfl rfl 3 (by decide) q993 rfl rfl (rfl) (rfl) (Nat.le_of_ble_eq_true rfl) (ps' := [mcP G q (hv9 (nI (r - A)) (nI (f + A - 2 * T1 - (t + 1))) (nI (s - T1)) (nI (b + T1 - t)) (nI (a + t)) g0 g1 g2 g3, ox, pa, fo)]) rfl ?_
                        refine V_aload_n hC dX9_burn_139 0 rfl ?_
                        refine V_dup hC dX9_burn_140 rfl ?_
                        refine V_get hC dX9_burn_141 inAX9 (mem_at 0 0 rfl rfl) rfl 5 (by decide) q997 rfl (v := .int (nI (b + T1 - t))) rfl ?_
                        refine V_iconst hC dX9_burn_144 (v := 1) (by decide) ?_
                        refine V_isub hC dX9_burn_145 ?_
                        refine V_eqi (y := nI (b + T1 - (t + 1))) (nI_subE (b := 1) (by omega) (by omega)) ?_
                        refine V_put hC dX9_burn_146 inAX9 tyX9 tyX9_ok nmX9 0 0 rfl rfl rfl 5 (by decide) q997 rfl rfl (rfl) (rfl) (Nat.le_of_ble_eq_true rfl) (ps' := [mcP G q (hv9 (nI (r - A)) (nI (f + A - 2 * T1 - (t + 1))) (nI (s - T1)) (nI (b + T1 - (t + 1))) (nI (a + t)) g0 g1 g2 g3, ox, pa, fo)]) rfl ?_
                        refine V_aload_n hC dX9_burn_149 0 rfl ?_
                        refine V_dup hC dX9_burn_150 rfl ?_
                        refine V_get hC dX9_burn_151 inAX9 (mem_at 0 0 rfl rfl) rfl 6 (by decide) q999 rfl (v := .int (nI (a + t))) rfl ?_
                        refine V_iconst hC dX9_burn_154 (v := 1) (by decide) ?_
                        refine V_iadd hC dX9_burn_155 ?_
                        refine V_eqi (y := nI (a + (t + 1))) (nI_1 _) ?_
                        refine V_put hC dX9_burn_156 inAX9 tyX9 tyX9_ok nmX9 0 0 rfl rfl rfl 6 (by decide) q999 rfl rfl (rfl) (rfl) (Nat.le_of_ble_eq_true rfl) (ps' := [mcP G q (hv9 (nI (r - A)) (nI (f + A - 2 * T1 - (t + 1))) (nI (s - T1)) (nI (b + T1 - (t + 1))) (nI (a + (t + 1))) g0 g1 g2 g3, ox, pa, fo)]) rfl ?_
                        refine V_iinc hC dX9_burn_159 (v := nI (8 + (t + 1)) - nI (mm / 4)) (L' := [(3, .int (nI (8 + (t + 1)) - nI (mm / 4))), (0, .ref (q 0)), (1, .int (nI u)), (2, .int (nI A))]) (j := 3) rfl (by rw [show Int32.ofInt 1 = (1 : Int32) by decide, i32_sub_inc, nI_1]; rfl) (by decide) rfl ?_
                        refine V_goto hC dX9_burn_162 (tgt := 104) (by decide) ?_
                        refine V_loc (L' := [(0, .ref (q 0)), (1, .int (nI u)), (2, .int (nI A)), (3, .int (nI (8 + (t + 1)) - nI (mm / 4)))]) [1, 2, 3, 0] rfl ?_
                        exact ih (t + 1) (by split at hT2 <;> omega) (by split at hT2 <;> omega)
            refine V_loc (L' := [(0, .ref (q 0)), (1, .int (nI u)), (2, .int (nI A)), (3, .int (8 - (nI (mm / 4))))]) [1, 2, 3, 0] rfl ?_
            exact loop15 (T2 + 1) 0 (by omega) (by omega)
          · have h3 := nnle (b := 0) h14
            refine V_aload_n hC dX9_burn_58 0 rfl ?_
            refine V_dup hC dX9_burn_59 rfl ?_
            refine V_get hC dX9_burn_60 inAX9 (mem_at 0 0 rfl rfl) rfl 3 (by decide) q993 rfl (v := .int (nI (f + A - 2 * t))) rfl ?_
            refine V_iconst hC dX9_burn_63 (v := 2) (by decide) ?_
            refine V_isub hC dX9_burn_64 ?_
            refine V_eqi (y := nI (f + A - 2 * (t + 1))) (nI_subE (b := 2) (by omega) (by omega)) ?_
            refine V_put hC dX9_burn_65 inAX9 tyX9 tyX9_ok nmX9 0 0 rfl rfl rfl 3 (by decide) q993 rfl rfl (rfl) (rfl) (Nat.le_of_ble_eq_true rfl) (ps' := [mcP G q (hv9 (nI (r - A)) (nI (f + A - 2 * (t + 1))) (nI (s - t)) (nI (b + t)) (nI a) g0 g1 g2 g3, ox, pa, fo)]) rfl ?_
            refine V_aload_n hC dX9_burn_68 0 rfl ?_
            refine V_dup hC dX9_burn_69 rfl ?_
            refine V_get hC dX9_burn_70 inAX9 (mem_at 0 0 rfl rfl) rfl 4 (by decide) q995 rfl (v := .int (nI (s - t))) rfl ?_
            refine V_iconst hC dX9_burn_73 (v := 1) (by decide) ?_
            refine V_isub hC dX9_burn_74 ?_
            refine V_eqi (y := nI (s - (t + 1))) (nI_subE (b := 1) (by omega) (by omega)) ?_
            refine V_put hC dX9_burn_75 inAX9 tyX9 tyX9_ok nmX9 0 0 rfl rfl rfl 4 (by decide) q995 rfl rfl (rfl) (rfl) (Nat.le_of_ble_eq_true rfl) (ps' := [mcP G q (hv9 (nI (r - A)) (nI (f + A - 2 * (t + 1))) (nI (s - (t + 1))) (nI (b + t)) (nI a) g0 g1 g2 g3, ox, pa, fo)]) rfl ?_
            refine V_aload_n hC dX9_burn_78 0 rfl ?_
            refine V_dup hC dX9_burn_79 rfl ?_
            refine V_get hC dX9_burn_80 inAX9 (mem_at 0 0 rfl rfl) rfl 5 (by decide) q997 rfl (v := .int (nI (b + t))) rfl ?_
            refine V_iconst hC dX9_burn_83 (v := 1) (by decide) ?_
            refine V_iadd hC dX9_burn_84 ?_
            refine V_eqi (y := nI (b + (t + 1))) (nI_1 _) ?_
            refine V_put hC dX9_burn_85 inAX9 tyX9 tyX9_ok nmX9 0 0 rfl rfl rfl 5 (by decide) q997 rfl rfl (rfl) (rfl) (Nat.le_of_ble_eq_true rfl) (ps' := [mcP G q (hv9 (nI (r - A)) (nI (f + A - 2 * (t + 1))) (nI (s - (t + 1))) (nI (b + (t + 1))) (nI a) g0 g1 g2 g3, ox, pa, fo)]) rfl ?_
            refine V_iinc hC dX9_burn_88 (v := nI (6 + (t + 1))) (L' := [(3, .int (nI (6 + (t + 1)))), (0, .ref (q 0)), (1, .int (nI u)), (2, .int (nI A))]) (j := 3) rfl (nI_1 _) (by decide) rfl ?_
            refine V_goto hC dX9_burn_91 (tgt := 38) (by decide) ?_
            refine V_loc (L' := [(0, .ref (q 0)), (1, .int (nI u)), (2, .int (nI A)), (3, .int (nI (6 + (t + 1))))]) [1, 2, 3, 0] rfl ?_
            exact ih (t + 1) (by omega) (by omega)
  refine V_loc (L' := [(0, .ref (q 0)), (1, .int (nI u)), (2, .int (nI A)), (3, .int 6)]) [2, 3, 1, 0] rfl ?_
  exact loop1 (T1 + 1) 0 (by omega) (by omega)
set_option maxHeartbeats 4000000 in
/-- ClinkerWorksModel$Charge.burn -/
theorem c_X9_burn (l : Launch) (G : VG) (q : Nat → Nat) (z : MV) (x : CV) (w : Nat) (hN : chN x) (hR : cmR x z) (hw : w ≤ 100) : Mi l G yX9_burn cX9_burn 4 .int 1 20 0 0 [.ref (q 0), .int (nI w)] [mcP G q z] (fun v y => v = bnA (nI w) (x.1 1) ∧ y = [mcP G q (mvS z (chBurn (nI w) x))]) := by
  obtain ⟨r, f, s, b, a, o0, o1, o2, o3, e1, e2, e3, e4, e5, p0, p1, p2, p3, c1, c2, b0, b1, b2, b3⟩ := hN
  obtain ⟨r1, r2, r3, r4, r5, r6, r7, r8, r9⟩ := hR
  have hz : mcP G q z = mcP G q (hv9 (nI r) (nI f) (nI s) (nI b) (nI a) (z.1 5) (z.1 6) (z.1 7) (z.1 8), z.2.1, z.2.2.1, z.2.2.2) := mcP_eq (z := z) (fun k hk => by
    match k, hk with
    | 0, _ => exact r1.symm.trans e1
    | 1, _ => exact r2.symm.trans e2
    | 2, _ => exact r3.symm.trans e3
    | 3, _ => exact r4.symm.trans e4
    | 4, _ => exact r5.symm.trans e5
    | 5, _ => rfl
    | 6, _ => rfl
    | 7, _ => rfl
    | 8, _ => rfl)
  refine Mi_post (by rw [hz]) ?_ (c_X9_burnN l G q w r f s b a (o2 + o3) (min r (w - 4)) (bT1 w r f s) (bT2 w r f s b (o2 + o3)) (z.1 5) (z.1 6) (z.1 7) (z.1 8) z.2.1 z.2.2.1 z.2.2.2 (by omega) (by omega) (by omega) (by omega) (by omega) (by omega) (by omega) (by rw [← r8, ← r9, p2, p3, nI_add]) rfl rfl rfl)
  rintro v y ⟨rfl, rfl⟩
  refine ⟨_, ?_, by rw [e1, bn_A (by omega) (by omega)], rfl⟩
  have hA : min r (w - 4) ≤ r := Nat.min_le_left _ _
  have hT1 : 2 * bT1 w r f s ≤ f + min r (w - 4) ∧ bT1 w r f s ≤ s := by unfold bT1; omega
  have hF : bF2 w r f s = f + min r (w - 4) - 2 * bT1 w r f s := rfl
  have hT2 : bT2 w r f s b (o2 + o3) ≤ bF2 w r f s ∧ bT2 w r f s b (o2 + o3) ≤ b + bT1 w r f s := by unfold bT2; split <;> omega
  have k1 : x.1 1 - bnA (nI w) (x.1 1) = nI (r - min r (w - 4)) := by rw [e1, bn_A (by omega) (by omega), pk_sub hA]
  have kC : bnC1 (nI w) (x.1 1) (x.1 2) (x.1 3) (x.1 4) (mxMelt x.2.1) = nI (bT2 w r f s b (o2 + o3)) := by
    show bnC1 (nI w) (x.1 1) (x.1 2) (x.1 3) (x.1 4) (x.2.1 2 + x.2.1 3) = _
    rw [e1, e2, e3, e4, p2, p3, nI_add, bn_C (by omega) (by omega) (by omega) (by omega) (by omega) (by omega)]
  have k2 : bnFree2 (nI w) (x.1 1) (x.1 2) (x.1 3) = nI (bF2 w r f s) := by rw [e1, e2, e3, bn_F (by omega) (by omega) (by omega) (by omega)]
  have k3 : bnB1 (nI w) (x.1 1) (x.1 2) (x.1 3) = nI (bT1 w r f s) := by rw [e1, e2, e3, bn_B (by omega) (by omega) (by omega) (by omega)]
  have hu : mvS z (chBurn (nI w) x) = (hv9 (nI (r - min r (w - 4))) (nI (f + min r (w - 4) - 2 * bT1 w r f s - bT2 w r f s b (o2 + o3))) (nI (s - bT1 w r f s)) (nI (b + bT1 w r f s - bT2 w r f s b (o2 + o3))) (nI (a + bT2 w r f s b (o2 + o3))) (z.1 5) (z.1 6) (z.1 7) (z.1 8), z.2.1, z.2.2.1, z.2.2.2) := by
    show (hv9 (x.1 1 - bnA (nI w) (x.1 1)) (bnFree2 (nI w) (x.1 1) (x.1 2) (x.1 3) - bnC1 (nI w) (x.1 1) (x.1 2) (x.1 3) (x.1 4) (mxMelt x.2.1)) (x.1 3 - bnB1 (nI w) (x.1 1) (x.1 2) (x.1 3)) (x.1 4 + bnB1 (nI w) (x.1 1) (x.1 2) (x.1 3) - bnC1 (nI w) (x.1 1) (x.1 2) (x.1 3) (x.1 4) (mxMelt x.2.1)) (x.1 5 + bnC1 (nI w) (x.1 1) (x.1 2) (x.1 3) (x.1 4) (mxMelt x.2.1)) (z.1 5) (z.1 6) (z.1 7) (z.1 8), z.2) = _
    rw [k1, kC, k2, k3, e3, e4, e5, pk_sub hT2.1, pk_sub hT1.2, nI_add, pk_sub hT2.2, nI_add, hF]
  rw [hu]
set_option maxHeartbeats 4000000 in
set_option maxRecDepth 100000 in
/-- ClinkerWorksModel$Charge.copy -/
theorem c_X9_copy (l : Launch) (G : VG) (q : Nat → Nat) (z : MV) : Mr l G yX9_copy cX9_copy 2 (.object "ClinkerWorksModel$Charge") 2 32 4 25 [.ref (q 0)] [mcP G q z] (fun r u => ∃ a o p fo : Nat, a = r ∧ u = [mcP G q z, mcP G (qf a o p fo) (cpM z)]) := by
  refine Mr_of (by decide) (Nat.le_of_ble_eq_true rfl) (fun pP eE sS mM aA bB tT cC AA QQ hC hr hnm hQ => ?_)
  refine V_new hC inAX9 tyX9 tyX9_ok (ci := 10) rfl q1498 q981 q57 (fs := [.null, .null, .int 0, .int 0, .int 0, .int 0, .int 0, .int 0, .int 0, .int 0, .int 0, .null]) (by decide +kernel) (by decide) (by decide) dX9_copy_0 (fun q1 => ?_)
  refine V_dup hC dX9_copy_3 rfl ?_
  refine V_callv hC (V_runI hC (rest := [.ref q1]) [] (c_X9_init l G q1) [1] rfl (by decide) q1499 q983 q57 q984 rfl ⟨by decide, by decide, rfl⟩ ⟨by decide, by decide⟩ rfl (Nat.le_of_ble_eq_true rfl) ⟨by decide, by decide⟩ dX9_copy_4) (is := [1]) rfl [0] (rs := [mcP G q z]) rfl (by decide) (by decide) ?_
  rintro _ ⟨o2, p2, fo2, rfl⟩
  refine V_astore_n hC dX9_copy_7 (L' := [(1, .ref q1), (0, .ref (q 0))]) (by decide) rfl ?_
  refine V_aload_n hC dX9_copy_8 1 rfl ?_
  refine V_get hC dX9_copy_9 inAX9 (mem_at 1 0 rfl rfl) rfl 0 (by decide) q986 rfl (v := .ref (q 1)) rfl ?_
  refine V_iconst hC dX9_copy_12 (v := 0) (by decide) ?_
  refine V_aload_n hC dX9_copy_13 0 rfl ?_
  refine V_get hC dX9_copy_14 inAX9 (mem_at 0 0 rfl rfl) rfl 0 (by decide) q986 rfl (v := .ref o2) rfl ?_
  refine V_iconst hC dX9_copy_17 (v := 0) (by decide) ?_
  refine V_iconst hC dX9_copy_18 (v := 4) (by decide) ?_
  refine V_copyi hC q1500 q1147 q1146 q63 (mem_at 1 1 rfl rfl) 0 1 rfl rfl 0 0 4 (by rfl) (by rfl) (by rfl) (by first | decide | omega) (by first | decide | omega) (by first | decide | omega) (by first | decide | omega) (by decide) (by decide) (ps' := [mcP G (qf q1 o2 p2 fo2) (hv9 (mo0.1 0) (mo0.1 1) (mo0.1 2) (mo0.1 3) (mo0.1 4) (mo0.1 5) (mo0.1 6) (mo0.1 7) (mo0.1 8), va_cpy z.2.1 mo0.2.1 0 0 4, mo0.2.2.1, mo0.2.2.2), mcP G q z]) rfl dX9_copy_19 ?_
  refine V_aload_n hC dX9_copy_22 0 rfl ?_
  refine V_aload_n hC dX9_copy_23 1 rfl ?_
  refine V_get hC dX9_copy_24 inAX9 (mem_at 1 0 rfl rfl) rfl 2 (by decide) q990 rfl (v := .int (z.1 0)) rfl ?_
  refine V_put hC dX9_copy_27 inAX9 tyX9 tyX9_ok nmX9 0 0 rfl rfl rfl 2 (by decide) q990 rfl rfl (rfl) (rfl) (Nat.le_of_ble_eq_true rfl) (ps' := [mcP G (qf q1 o2 p2 fo2) (hv9 (z.1 0) (mo0.1 1) (mo0.1 2) (mo0.1 3) (mo0.1 4) (mo0.1 5) (mo0.1 6) (mo0.1 7) (mo0.1 8), va_cpy z.2.1 mo0.2.1 0 0 4, mo0.2.2.1, mo0.2.2.2), mcP G q z]) rfl ?_
  refine V_aload_n hC dX9_copy_30 0 rfl ?_
  refine V_aload_n hC dX9_copy_31 1 rfl ?_
  refine V_get hC dX9_copy_32 inAX9 (mem_at 1 0 rfl rfl) rfl 3 (by decide) q993 rfl (v := .int (z.1 1)) rfl ?_
  refine V_put hC dX9_copy_35 inAX9 tyX9 tyX9_ok nmX9 0 0 rfl rfl rfl 3 (by decide) q993 rfl rfl (rfl) (rfl) (Nat.le_of_ble_eq_true rfl) (ps' := [mcP G (qf q1 o2 p2 fo2) (hv9 (z.1 0) (z.1 1) (mo0.1 2) (mo0.1 3) (mo0.1 4) (mo0.1 5) (mo0.1 6) (mo0.1 7) (mo0.1 8), va_cpy z.2.1 mo0.2.1 0 0 4, mo0.2.2.1, mo0.2.2.2), mcP G q z]) rfl ?_
  refine V_aload_n hC dX9_copy_38 0 rfl ?_
  refine V_aload_n hC dX9_copy_39 1 rfl ?_
  refine V_get hC dX9_copy_40 inAX9 (mem_at 1 0 rfl rfl) rfl 4 (by decide) q995 rfl (v := .int (z.1 2)) rfl ?_
  refine V_put hC dX9_copy_43 inAX9 tyX9 tyX9_ok nmX9 0 0 rfl rfl rfl 4 (by decide) q995 rfl rfl (rfl) (rfl) (Nat.le_of_ble_eq_true rfl) (ps' := [mcP G (qf q1 o2 p2 fo2) (hv9 (z.1 0) (z.1 1) (z.1 2) (mo0.1 3) (mo0.1 4) (mo0.1 5) (mo0.1 6) (mo0.1 7) (mo0.1 8), va_cpy z.2.1 mo0.2.1 0 0 4, mo0.2.2.1, mo0.2.2.2), mcP G q z]) rfl ?_
  refine V_aload_n hC dX9_copy_46 0 rfl ?_
  refine V_aload_n hC dX9_copy_47 1 rfl ?_
  refine V_get hC dX9_copy_48 inAX9 (mem_at 1 0 rfl rfl) rfl 5 (by decide) q997 rfl (v := .int (z.1 3)) rfl ?_
  refine V_put hC dX9_copy_51 inAX9 tyX9 tyX9_ok nmX9 0 0 rfl rfl rfl 5 (by decide) q997 rfl rfl (rfl) (rfl) (Nat.le_of_ble_eq_true rfl) (ps' := [mcP G (qf q1 o2 p2 fo2) (hv9 (z.1 0) (z.1 1) (z.1 2) (z.1 3) (mo0.1 4) (mo0.1 5) (mo0.1 6) (mo0.1 7) (mo0.1 8), va_cpy z.2.1 mo0.2.1 0 0 4, mo0.2.2.1, mo0.2.2.2), mcP G q z]) rfl ?_
  refine V_aload_n hC dX9_copy_54 0 rfl ?_
  refine V_aload_n hC dX9_copy_55 1 rfl ?_
  refine V_get hC dX9_copy_56 inAX9 (mem_at 1 0 rfl rfl) rfl 6 (by decide) q999 rfl (v := .int (z.1 4)) rfl ?_
  refine V_put hC dX9_copy_59 inAX9 tyX9 tyX9_ok nmX9 0 0 rfl rfl rfl 6 (by decide) q999 rfl rfl (rfl) (rfl) (Nat.le_of_ble_eq_true rfl) (ps' := [mcP G (qf q1 o2 p2 fo2) (hv9 (z.1 0) (z.1 1) (z.1 2) (z.1 3) (z.1 4) (mo0.1 5) (mo0.1 6) (mo0.1 7) (mo0.1 8), va_cpy z.2.1 mo0.2.1 0 0 4, mo0.2.2.1, mo0.2.2.2), mcP G q z]) rfl ?_
  refine V_aload_n hC dX9_copy_62 0 rfl ?_
  exact V_aret hC hQ hr (Or.inl ⟨_, rfl⟩) [1, 0] (u := [mcP G q z, mcP G (qf q1 o2 p2 fo2) (hv9 (z.1 0) (z.1 1) (z.1 2) (z.1 3) (z.1 4) (mo0.1 5) (mo0.1 6) (mo0.1 7) (mo0.1 8), va_cpy z.2.1 mo0.2.1 0 0 4, mo0.2.2.1, mo0.2.2.2)]) (by decide) rfl (by decide) (by decide) dX9_copy_63 (⟨_, _, _, _, rfl, rfl⟩)
