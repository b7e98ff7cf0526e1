/-! ===== what the methods compute: mixes and charges ===== -/
theorem vin {i : Int32} {n : Nat} (h : ¬ (i < 0 ∨ n ≤ i.toNatClampNeg)) : vp_in i n := h
def mxClear (f : Nat → Int32) : Nat → Int32 := upd (upd (upd (upd f 0 0) 1 0) 2 0) 3 0
def mxCopy (f g : Nat → Int32) : Nat → Int32 := upd (upd (upd (upd f 0 (g 0)) 1 (g 1)) 2 (g 2)) 3 (g 3)
def mxStone (f b : Nat → Int32) (x : Int32) : Nat → Int32 := upd (upd (upd (upd f 0 (f 0 + x * b 0)) 1 (f 1 + x * b 1)) 2 (f 2 + x * b 2)) 3 (f 3 + x * b 3)
def mxBins (f : Nat → Int32) (one two three : Int32) : Nat → Int32 := upd (upd (upd f 1 (f 1 + (9 * one + 3 * two))) 2 (f 2 + 6 * two)) 3 (f 3 + 9 * three)
def mxMelt (f : Nat → Int32) : Int32 := f 2 + f 3
def mxSum (f : Nat → Int32) : Int32 := f 0 + f 1 + mxMelt f
def mxQuot (a b : Int32) : Int32 := if b = 0 then 999 else a / b
def mxWithin (x a b : Int32) : Int32 := if a ≤ x ∧ x ≤ b then 1 else 0
def mxSat (f : Nat → Int32) : Int32 := mxQuot (100 * f 0) (3 * f 1 + 2 * f 2 + f 3)
def mxSil (f : Nat → Int32) : Int32 := mxQuot (10 * f 1) (mxMelt f)
def mxAlu (f : Nat → Int32) : Int32 := mxQuot (10 * f 2) (f 3)
def mxRight (f : Nat → Int32) : Int32 := if mxWithin (mxSat f) 80 110 = 0 then 0 else if mxWithin (mxSil f) 12 40 = 0 then 0 else if mxWithin (mxAlu f) 5 40 = 0 then 0 else 1
theorem w01 {x a b : Int32} : mxWithin x a b = 0 ∨ mxWithin x a b = 1 := by unfold mxWithin; split <;> simp
def bkBelieved (known : Int32) (ox : Nat → Int32) : Nat → Int32 := if known = 0 then tb4 5 2 1 0 else ox
set_option maxHeartbeats 4000000 in
set_option maxRecDepth 100000 in
/-- ClinkerWorks$Mix.quotient -/
theorem c_X4_quotient (l : Launch) (G : VG) (x y : Int32) : Mi l G yX4_quotient cX4_quotient 2 .int 0 0 0 0 [.int x, .int y] [] (fun r u => r = mxQuot x y ∧ u = []) := by
  refine Mi_of (by decide) (Nat.le_of_ble_eq_true rfl) (fun pP eE sS mM aA bB tT cC AA QQ hC hr hnm hQ => ?_)
  refine V_iload_n hC dX4_quotient_0 1 rfl ?_
  refine V_if_ne hC dX4_quotient_1 (tgt := 10) (by decide) (fun h1 => ?_) (fun h1 => ?_)
  · refine V_iload_n hC dX4_quotient_10 0 rfl ?_
    refine V_iload_n hC dX4_quotient_11 1 rfl ?_
    refine V_idiv hC dX4_quotient_12 (h1) ?_
    exact V_iret hC hQ hr [] (u := []) (by decide) rfl (by decide) (by decide) dX4_quotient_13 (⟨by simp [mxQuot, *], rfl⟩)
  · refine V_sipush hC dX4_quotient_4 (v := 999) (by decide) ?_
    refine V_goto hC dX4_quotient_7 (tgt := 13) (by decide) ?_
    exact V_iret hC hQ hr [] (u := []) (by decide) rfl (by decide) (by decide) dX4_quotient_13 (⟨by simp [mxQuot, *], rfl⟩)
set_option maxHeartbeats 4000000 in
set_option maxRecDepth 100000 in
/-- ClinkerWorks$Mix.isWithin -/
theorem c_X4_isWithin (l : Launch) (G : VG) (x a b : Int32) : Mi l G yX4_isWithin cX4_isWithin 3 .boolean 0 0 0 0 [.int x, .int a, .int b] [] (fun r u => r = mxWithin x a b ∧ u = []) := by
  refine Mi_of (by decide) (Nat.le_of_ble_eq_true rfl) (fun pP eE sS mM aA bB tT cC AA QQ hC hr hnm hQ => ?_)
  refine V_iload_n hC dX4_isWithin_0 0 rfl ?_
  refine V_iload_n hC dX4_isWithin_1 1 rfl ?_
  refine V_icmp_lt hC dX4_isWithin_2 (tgt := 14) (by decide) (fun h1 => ?_) (fun h1 => ?_)
  · refine V_iconst hC dX4_isWithin_14 (v := 0) (by decide) ?_
    exact V_zret hC hQ hr (by decide) [] (u := []) (by decide) rfl (by decide) (by decide) dX4_isWithin_15 (⟨by unfold mxWithin; split <;> rename_i hc <;> simp only [Int32.lt_iff_toInt_lt, Int32.le_iff_toInt_le] at * <;> first | rfl | (exfalso; omega), rfl⟩)
  · refine V_iload_n hC dX4_isWithin_5 0 rfl ?_
    refine V_iload_n hC dX4_isWithin_6 2 rfl ?_
    refine V_icmp_gt hC dX4_isWithin_7 (tgt := 14) (by decide) (fun h2 => ?_) (fun h2 => ?_)
    · refine V_iconst hC dX4_isWithin_14 (v := 0) (by decide) ?_
      exact V_zret hC hQ hr (by decide) [] (u := []) (by decide) rfl (by decide) (by decide) dX4_isWithin_15 (⟨by unfold mxWithin; split <;> rename_i hc <;> simp only [Int32.lt_iff_toInt_lt, Int32.le_iff_toInt_le] at * <;> first | rfl | (exfalso; omega), rfl⟩)
    · refine V_iconst hC dX4_isWithin_10 (v := 1) (by decide) ?_
      refine V_goto hC dX4_isWithin_11 (tgt := 15) (by decide) ?_
      exact V_zret hC hQ hr (by decide) [] (u := []) (by decide) rfl (by decide) (by decide) dX4_isWithin_15 (⟨by unfold mxWithin; split <;> rename_i hc <;> simp only [Int32.lt_iff_toInt_lt, Int32.le_iff_toInt_le] at * <;> first | rfl | (exfalso; omega), rfl⟩)
set_option maxHeartbeats 4000000 in
set_option maxRecDepth 100000 in
/-- ClinkerWorks$Mix.clear -/
theorem c_X4_clear (l : Launch) (G : VG) (a am : Nat) (f : Nat → Int32) : Mv l G yX4_clear cX4_clear 2 0 0 0 0 [.ref a] [[(a, .inr (5, [.ref am]))], [(am, .inl (G.2.1 0, 4, .inl f))]] (fun u => u = [[(a, .inr (5, [.ref am]))], [(am, .inl (G.2.1 0, 4, .inl (mxClear f)))]]) := by
  refine Mv_of (by decide) (Nat.le_of_ble_eq_true rfl) (fun pP eE sS mM aA bB tT cC AA QQ hC hr hnm hQ => ?_)
  refine V_iconst hC dX4_clear_0 (v := 0) (by decide) ?_
  refine V_istore_n hC dX4_clear_1 (L' := [(1, .int 0), (0, .ref a)]) (by decide) rfl ?_
  refine V_iload_n hC dX4_clear_2 0 rfl ?_
  refine V_iconst hC dX4_clear_3 (v := 4) (by decide) ?_
  refine V_icmp_geF hC dX4_clear_4 (tgt := 20) (by decide) (by decide) ?_
  refine V_aload_n hC dX4_clear_7 1 rfl ?_
  refine V_get hC dX4_clear_8 inAX4 (mem_at 0 0 rfl rfl) rfl 0 (by decide) q77 rfl (v := .ref am) rfl ?_
  refine V_iload_n hC dX4_clear_11 0 rfl ?_
  refine V_iconst hC dX4_clear_12 (v := 0) (by decide) ?_
  refine V_iast hC dX4_clear_13 1 0 rfl rfl (vin (by decide)) (z := 0) (by decide) (ps' := [[(a, .inr (5, [.ref am]))], [(am, .inl (G.2.1 0, 4, .inl (upd f 0 0)))]]) rfl ?_
  refine V_iinc hC dX4_clear_14 (v := 1) (L' := [(1, .int 1), (0, .ref a)]) (j := 0) rfl (by decide) (by decide) rfl ?_
  refine V_goto hC dX4_clear_17 (tgt := 2) (by decide) ?_
  refine V_iload_n hC dX4_clear_2 0 rfl ?_
  refine V_iconst hC dX4_clear_3 (v := 4) (by decide) ?_
  refine V_icmp_geF hC dX4_clear_4 (tgt := 20) (by decide) (by decide) ?_
  refine V_aload_n hC dX4_clear_7 1 rfl ?_
  refine V_get hC dX4_clear_8 inAX4 (mem_at 0 0 rfl rfl) rfl 0 (by decide) q77 rfl (v := .ref am) rfl ?_
  refine V_iload_n hC dX4_clear_11 0 rfl ?_
  refine V_iconst hC dX4_clear_12 (v := 0) (by decide) ?_
  refine V_iast hC dX4_clear_13 1 0 rfl rfl (vin (by decide)) (z := 1) (by decide) (ps' := [[(a, .inr (5, [.ref am]))], [(am, .inl (G.2.1 0, 4, .inl (upd (upd f 0 0) 1 0)))]]) rfl ?_
  refine V_iinc hC dX4_clear_14 (v := 2) (L' := [(1, .int 2), (0, .ref a)]) (j := 0) rfl (by decide) (by decide) rfl ?_
  refine V_goto hC dX4_clear_17 (tgt := 2) (by decide) ?_
  refine V_iload_n hC dX4_clear_2 0 rfl ?_
  refine V_iconst hC dX4_clear_3 (v := 4) (by decide) ?_
  refine V_icmp_geF hC dX4_clear_4 (tgt := 20) (by decide) (by decide) ?_
  refine V_aload_n hC dX4_clear_7 1 rfl ?_
  refine V_get hC dX4_clear_8 inAX4 (mem_at 0 0 rfl rfl) rfl 0 (by decide) q77 rfl (v := .ref am) rfl ?_
  refine V_iload_n hC dX4_clear_11 0 rfl ?_
  refine V_iconst hC dX4_clear_12 (v := 0) (by decide) ?_
  refine V_iast hC dX4_clear_13 1 0 rfl rfl (vin (by decide)) (z := 2) (by decide) (ps' := [[(a, .inr (5, [.ref am]))], [(am, .inl (G.2.1 0, 4, .inl (upd (upd (upd f 0 0) 1 0) 2 0)))]]) rfl ?_
  refine V_iinc hC dX4_clear_14 (v := 3) (L' := [(1, .int 3), (0, .ref a)]) (j := 0) rfl (by decide) (by decide) rfl ?_
  refine V_goto hC dX4_clear_17 (tgt := 2) (by decide) ?_
  refine V_iload_n hC dX4_clear_2 0 rfl ?_
  refine V_iconst hC dX4_clear_3 (v := 4) (by decide) ?_
  refine V_icmp_geF hC dX4_clear_4 (tgt := 20) (by decide) (by decide) ?_
  refine V_aload_n hC dX4_clear_7 1 rfl ?_
  refine V_get hC dX4_clear_8 inAX4 (mem_at 0 0 rfl rfl) rfl 0 (by decide) q77 rfl (v := .ref am) rfl ?_
  refine V_iload_n hC dX4_clear_11 0 rfl ?_
  refine V_iconst hC dX4_clear_12 (v := 0) (by decide) ?_
  refine V_iast hC dX4_clear_13 1 0 rfl rfl (vin (by decide)) (z := 3) (by decide) (ps' := [[(a, .inr (5, [.ref am]))], [(am, .inl (G.2.1 0, 4, .inl (upd (upd (upd (upd f 0 0) 1 0) 2 0) 3 0)))]]) rfl ?_
  refine V_iinc hC dX4_clear_14 (v := 4) (L' := [(1, .int 4), (0, .ref a)]) (j := 0) rfl (by decide) (by decide) rfl ?_
  refine V_goto hC dX4_clear_17 (tgt := 2) (by decide) ?_
  refine V_iload_n hC dX4_clear_2 0 rfl ?_
  refine V_iconst hC dX4_clear_3 (v := 4) (by decide) ?_
  refine V_icmp_geT hC dX4_clear_4 (tgt := 20) (by decide) (by decide) ?_
  exact V_vret hC hQ hr [0, 1] (u := [[(a, .inr (5, [.ref am]))], [(am, .inl (G.2.1 0, 4, .inl (upd (upd (upd (upd f 0 0) 1 0) 2 0) 3 0)))]]) (by decide) rfl (by decide) (by decide) dX4_clear_20 (rfl)
set_option maxHeartbeats 4000000 in
set_option maxRecDepth 100000 in
/-- ClinkerWorks$Mix.copyFrom -/
theorem c_X4_copyFrom (l : Launch) (G : VG) (a am : Nat) (f : Nat → Int32) (b bm : Nat) (g : Nat → Int32) : Mv l G yX4_copyFrom cX4_copyFrom 3 0 0 0 0 [.ref a, .ref b] [[(a, .inr (5, [.ref am]))], [(am, .inl (G.2.1 0, 4, .inl f))], [(b, .inr (5, [.ref bm]))], [(bm, .inl (G.2.1 0, 4, .inl g))]] (fun u => u = [[(a, .inr (5, [.ref am]))], [(am, .inl (G.2.1 0, 4, .inl (mxCopy f g)))], [(b, .inr (5, [.ref bm]))], [(bm, .inl (G.2.1 0, 4, .inl g))]]) := by
  refine Mv_of (by decide) (Nat.le_of_ble_eq_true rfl) (fun pP eE sS mM aA bB tT cC AA QQ hC hr hnm hQ => ?_)
  refine V_iconst hC dX4_copyFrom_0 (v := 0) (by decide) ?_
  refine V_istore_n hC dX4_copyFrom_1 (L' := [(2, .int 0), (0, .ref a), (1, .ref b)]) (by decide) rfl ?_
  refine V_iload_n hC dX4_copyFrom_2 0 rfl ?_
  refine V_iconst hC dX4_copyFrom_3 (v := 4) (by decide) ?_
  refine V_icmp_geF hC dX4_copyFrom_4 (tgt := 25) (by decide) (by decide) ?_
  refine V_aload_n hC dX4_copyFrom_7 1 rfl ?_
  refine V_get hC dX4_copyFrom_8 inAX4 (mem_at 0 0 rfl rfl) rfl 0 (by decide) q77 rfl (v := .ref am) rfl ?_
  refine V_iload_n hC dX4_copyFrom_11 0 rfl ?_
  refine V_aload_n hC dX4_copyFrom_12 2 rfl ?_
  refine V_get hC dX4_copyFrom_13 inAX4 (mem_at 2 0 rfl rfl) rfl 0 (by decide) q77 rfl (v := .ref bm) rfl ?_
  refine V_iload_n hC dX4_copyFrom_16 0 rfl ?_
  refine V_iald hC dX4_copyFrom_17 (mem_at 3 0 rfl rfl) (vin (by decide)) (x := 0) (by decide) ?_
  refine V_iast hC dX4_copyFrom_18 1 0 rfl rfl (vin (by decide)) (z := 0) (by decide) (ps' := [[(a, .inr (5, [.ref am]))], [(am, .inl (G.2.1 0, 4, .inl (upd f 0 (g 0))))], [(b, .inr (5, [.ref bm]))], [(bm, .inl (G.2.1 0, 4, .inl g))]]) rfl ?_
  refine V_iinc hC dX4_copyFrom_19 (v := 1) (L' := [(2, .int 1), (0, .ref a), (1, .ref b)]) (j := 0) rfl (by decide) (by decide) rfl ?_
  refine V_goto hC dX4_copyFrom_22 (tgt := 2) (by decide) ?_
  refine V_iload_n hC dX4_copyFrom_2 0 rfl ?_
  refine V_iconst hC dX4_copyFrom_3 (v := 4) (by decide) ?_
  refine V_icmp_geF hC dX4_copyFrom_4 (tgt := 25) (by decide) (by decide) ?_
  refine V_aload_n hC dX4_copyFrom_7 1 rfl ?_
  refine V_get hC dX4_copyFrom_8 inAX4 (mem_at 0 0 rfl rfl) rfl 0 (by decide) q77 rfl (v := .ref am) rfl ?_
  refine V_iload_n hC dX4_copyFrom_11 0 rfl ?_
  refine V_aload_n hC dX4_copyFrom_12 2 rfl ?_
  refine V_get hC dX4_copyFrom_13 inAX4 (mem_at 2 0 rfl rfl) rfl 0 (by decide) q77 rfl (v := .ref bm) rfl ?_
  refine V_iload_n hC dX4_copyFrom_16 0 rfl ?_
  refine V_iald hC dX4_copyFrom_17 (mem_at 3 0 rfl rfl) (vin (by decide)) (x := 1) (by decide) ?_
  refine V_iast hC dX4_copyFrom_18 1 0 rfl rfl (vin (by decide)) (z := 1) (by decide) (ps' := [[(a, .inr (5, [.ref am]))], [(am, .inl (G.2.1 0, 4, .inl (upd (upd f 0 (g 0)) 1 (g 1))))], [(b, .inr (5, [.ref bm]))], [(bm, .inl (G.2.1 0, 4, .inl g))]]) rfl ?_
  refine V_iinc hC dX4_copyFrom_19 (v := 2) (L' := [(2, .int 2), (0, .ref a), (1, .ref b)]) (j := 0) rfl (by decide) (by decide) rfl ?_
  refine V_goto hC dX4_copyFrom_22 (tgt := 2) (by decide) ?_
  refine V_iload_n hC dX4_copyFrom_2 0 rfl ?_
  refine V_iconst hC dX4_copyFrom_3 (v := 4) (by decide) ?_
  refine V_icmp_geF hC dX4_copyFrom_4 (tgt := 25) (by decide) (by decide) ?_
  refine V_aload_n hC dX4_copyFrom_7 1 rfl ?_
  refine V_get hC dX4_copyFrom_8 inAX4 (mem_at 0 0 rfl rfl) rfl 0 (by decide) q77 rfl (v := .ref am) rfl ?_
  refine V_iload_n hC dX4_copyFrom_11 0 rfl ?_
  refine V_aload_n hC dX4_copyFrom_12 2 rfl ?_
  refine V_get hC dX4_copyFrom_13 inAX4 (mem_at 2 0 rfl rfl) rfl 0 (by decide) q77 rfl (v := .ref bm) rfl ?_
  refine V_iload_n hC dX4_copyFrom_16 0 rfl ?_
  refine V_iald hC dX4_copyFrom_17 (mem_at 3 0 rfl rfl) (vin (by decide)) (x := 2) (by decide) ?_
  refine V_iast hC dX4_copyFrom_18 1 0 rfl rfl (vin (by decide)) (z := 2) (by decide) (ps' := [[(a, .inr (5, [.ref am]))], [(am, .inl (G.2.1 0, 4, .inl (upd (upd (upd f 0 (g 0)) 1 (g 1)) 2 (g 2))))], [(b, .inr (5, [.ref bm]))], [(bm, .inl (G.2.1 0, 4, .inl g))]]) rfl ?_
  refine V_iinc hC dX4_copyFrom_19 (v := 3) (L' := [(2, .int 3), (0, .ref a), (1, .ref b)]) (j := 0) rfl (by decide) (by decide) rfl ?_
  refine V_goto hC dX4_copyFrom_22 (tgt := 2) (by decide) ?_
  refine V_iload_n hC dX4_copyFrom_2 0 rfl ?_
  refine V_iconst hC dX4_copyFrom_3 (v := 4) (by decide) ?_
  refine V_icmp_geF hC dX4_copyFrom_4 (tgt := 25) (by decide) (by decide) ?_
  refine V_aload_n hC dX4_copyFrom_7 1 rfl ?_
  refine V_get hC dX4_copyFrom_8 inAX4 (mem_at 0 0 rfl rfl) rfl 0 (by decide) q77 rfl (v := .ref am) rfl ?_
  refine V_iload_n hC dX4_copyFrom_11 0 rfl ?_
  refine V_aload_n hC dX4_copyFrom_12 2 rfl ?_
  refine V_get hC dX4_copyFrom_13 inAX4 (mem_at 2 0 rfl rfl) rfl 0 (by decide) q77 rfl (v := .ref bm) rfl ?_
  refine V_iload_n hC dX4_copyFrom_16 0 rfl ?_
  refine V_iald hC dX4_copyFrom_17 (mem_at 3 0 rfl rfl) (vin (by decide)) (x := 3) (by decide) ?_
  refine V_iast hC dX4_copyFrom_18 1 0 rfl rfl (vin (by decide)) (z := 3) (by decide) (ps' := [[(a, .inr (5, [.ref am]))], [(am, .inl (G.2.1 0, 4, .inl (upd (upd (upd (upd f 0 (g 0)) 1 (g 1)) 2 (g 2)) 3 (g 3))))], [(b, .inr (5, [.ref bm]))], [(bm, .inl (G.2.1 0, 4, .inl g))]]) rfl ?_
  refine V_iinc hC dX4_copyFrom_19 (v := 4) (L' := [(2, .int 4), (0, .ref a), (1, .ref b)]) (j := 0) rfl (by decide) (by decide) rfl ?_
  refine V_goto hC dX4_copyFrom_22 (tgt := 2) (by decide) ?_
  refine V_iload_n hC dX4_copyFrom_2 0 rfl ?_
  refine V_iconst hC dX4_copyFrom_3 (v := 4) (by decide) ?_
  refine V_icmp_geT hC dX4_copyFrom_4 (tgt := 25) (by decide) (by decide) ?_
  exact V_vret hC hQ hr [0, 1, 2, 3] (u := [[(a, .inr (5, [.ref am]))], [(am, .inl (G.2.1 0, 4, .inl (upd (upd (upd (upd f 0 (g 0)) 1 (g 1)) 2 (g 2)) 3 (g 3))))], [(b, .inr (5, [.ref bm]))], [(bm, .inl (G.2.1 0, 4, .inl g))]]) (by decide) rfl (by decide) (by decide) dX4_copyFrom_25 (rfl)
set_option maxHeartbeats 4000000 in
set_option maxRecDepth 100000 in
/-- ClinkerWorks$Mix.melt -/
theorem c_X4_melt (l : Launch) (G : VG) (a am : Nat) (f : Nat → Int32) : Mi l G yX4_melt cX4_melt 1 .int 0 0 0 0 [.ref a] [[(a, .inr (5, [.ref am]))], [(am, .inl (G.2.1 0, 4, .inl f))]] (fun r u => r = mxMelt f ∧ u = [[(a, .inr (5, [.ref am]))], [(am, .inl (G.2.1 0, 4, .inl f))]]) := by
  refine Mi_of (by decide) (Nat.le_of_ble_eq_true rfl) (fun pP eE sS mM aA bB tT cC AA QQ hC hr hnm hQ => ?_)
  refine V_aload_n hC dX4_melt_0 0 rfl ?_
  refine V_get hC dX4_melt_1 inAX4 (mem_at 0 0 rfl rfl) rfl 0 (by decide) q77 rfl (v := .ref am) rfl ?_
  refine V_iconst hC dX4_melt_4 (v := 2) (by decide) ?_
  refine V_iald hC dX4_melt_5 (mem_at 1 0 rfl rfl) (vin (by decide)) (x := 2) (by decide) ?_
  refine V_aload_n hC dX4_melt_6 0 rfl ?_
  refine V_get hC dX4_melt_7 inAX4 (mem_at 0 0 rfl rfl) rfl 0 (by decide) q77 rfl (v := .ref am) rfl ?_
  refine V_iconst hC dX4_melt_10 (v := 3) (by decide) ?_
  refine V_iald hC dX4_melt_11 (mem_at 1 0 rfl rfl) (vin (by decide)) (x := 3) (by decide) ?_
  refine V_iadd hC dX4_melt_12 ?_
  exact V_iret hC hQ hr [0, 1] (u := [[(a, .inr (5, [.ref am]))], [(am, .inl (G.2.1 0, 4, .inl f))]]) (by decide) rfl (by decide) (by decide) dX4_melt_13 (⟨rfl, rfl⟩)
set_option maxHeartbeats 4000000 in
set_option maxRecDepth 100000 in
/-- ClinkerWorks$Mix.saturation -/
theorem c_X4_saturation (l : Launch) (G : VG) (a am : Nat) (f : Nat → Int32) : Mi l G yX4_saturation cX4_saturation 1 .int 1 21 0 0 [.ref a] [[(a, .inr (5, [.ref am]))], [(am, .inl (G.2.1 0, 4, .inl f))]] (fun r u => r = mxSat f ∧ u = [[(a, .inr (5, [.ref am]))], [(am, .inl (G.2.1 0, 4, .inl f))]]) := by
  refine Mi_of (by decide) (Nat.le_of_ble_eq_true rfl) (fun pP eE sS mM aA bB tT cC AA QQ hC hr hnm hQ => ?_)
  refine V_bipush hC dX4_saturation_0 (v := 100) (by decide) ?_
  refine V_aload_n hC dX4_saturation_2 0 rfl ?_
  refine V_get hC dX4_saturation_3 inAX4 (mem_at 0 0 rfl rfl) rfl 0 (by decide) q77 rfl (v := .ref am) rfl ?_
  refine V_iconst hC dX4_saturation_6 (v := 0) (by decide) ?_
  refine V_iald hC dX4_saturation_7 (mem_at 1 0 rfl rfl) (vin (by decide)) (x := 0) (by decide) ?_
  refine V_imul hC dX4_saturation_8 ?_
  refine V_iconst hC dX4_saturation_9 (v := 3) (by decide) ?_
  refine V_aload_n hC dX4_saturation_10 0 rfl ?_
  refine V_get hC dX4_saturation_11 inAX4 (mem_at 0 0 rfl rfl) rfl 0 (by decide) q77 rfl (v := .ref am) rfl ?_
  refine V_iconst hC dX4_saturation_14 (v := 1) (by decide) ?_
  refine V_iald hC dX4_saturation_15 (mem_at 1 0 rfl rfl) (vin (by decide)) (x := 1) (by decide) ?_
  refine V_imul hC dX4_saturation_16 ?_
  refine V_iconst hC dX4_saturation_17 (v := 2) (by decide) ?_
  refine V_aload_n hC dX4_saturation_18 0 rfl ?_
  refine V_get hC dX4_saturation_19 inAX4 (mem_at 0 0 rfl rfl) rfl 0 (by decide) q77 rfl (v := .ref am) rfl ?_
  refine V_iconst hC dX4_saturation_22 (v := 2) (by decide) ?_
  refine V_iald hC dX4_saturation_23 (mem_at 1 0 rfl rfl) (vin (by decide)) (x := 2) (by decide) ?_
  refine V_imul hC dX4_saturation_24 ?_
  refine V_iadd hC dX4_saturation_25 ?_
  refine V_aload_n hC dX4_saturation_26 0 rfl ?_
  refine V_get hC dX4_saturation_27 inAX4 (mem_at 0 0 rfl rfl) rfl 0 (by decide) q77 rfl (v := .ref am) rfl ?_
  refine V_iconst hC dX4_saturation_30 (v := 3) (by decide) ?_
  refine V_iald hC dX4_saturation_31 (mem_at 1 0 rfl rfl) (vin (by decide)) (x := 3) (by decide) ?_
  refine V_iadd hC dX4_saturation_32 ?_
  refine V_calli hC (V_runS hC (rest := []) [.int (100 * (f 0)), .int (((3 * (f 1)) + (2 * (f 2))) + (f 3))] (c_X4_quotient l G (100 * (f 0)) (((3 * (f 1)) + (2 * (f 2))) + (f 3))) [] rfl (by decide) q474 q475 q22 q476 ⟨by decide, by decide, rfl⟩ ⟨by decide, by decide⟩ rfl (Nat.le_of_ble_eq_true rfl) ⟨by decide, by decide⟩ dX4_saturation_33) (is := []) rfl [0, 1] (rs := [[(a, .inr (5, [.ref am]))], [(am, .inl (G.2.1 0, 4, .inl f))]]) rfl (by decide) (by decide) ?_
  rintro _ _ ⟨rfl, rfl⟩
  exact V_iret hC hQ hr [0, 1] (u := [[(a, .inr (5, [.ref am]))], [(am, .inl (G.2.1 0, 4, .inl f))]]) (by decide) rfl (by decide) (by decide) dX4_saturation_36 (⟨rfl, rfl⟩)
set_option maxHeartbeats 4000000 in
set_option maxRecDepth 100000 in
/-- ClinkerWorks$Mix.silicaModulus -/
theorem c_X4_silicaModulus (l : Launch) (G : VG) (a am : Nat) (f : Nat → Int32) : Mi l G yX4_silicaModulus cX4_silicaModulus 1 .int 1 21 0 0 [.ref a] [[(a, .inr (5, [.ref am]))], [(am, .inl (G.2.1 0, 4, .inl f))]] (fun r u => r = mxSil f ∧ u = [[(a, .inr (5, [.ref am]))], [(am, .inl (G.2.1 0, 4, .inl f))]]) := by
  refine Mi_of (by decide) (Nat.le_of_ble_eq_true rfl) (fun pP eE sS mM aA bB tT cC AA QQ hC hr hnm hQ => ?_)
  refine V_bipush hC dX4_silicaModulus_0 (v := 10) (by decide) ?_
  refine V_aload_n hC dX4_silicaModulus_2 0 rfl ?_
  refine V_get hC dX4_silicaModulus_3 inAX4 (mem_at 0 0 rfl rfl) rfl 0 (by decide) q77 rfl (v := .ref am) rfl ?_
  refine V_iconst hC dX4_silicaModulus_6 (v := 1) (by decide) ?_
  refine V_iald hC dX4_silicaModulus_7 (mem_at 1 0 rfl rfl) (vin (by decide)) (x := 1) (by decide) ?_
  refine V_imul hC dX4_silicaModulus_8 ?_
  refine V_aload_n hC dX4_silicaModulus_9 0 rfl ?_
  refine V_calli hC (V_runV hC (rest := [.int (10 * (f 1))]) [] (c_X4_melt l G a am f) [0, 1] rfl (by decide) q569 q522 q523 q22 q524 ⟨by decide, by decide, rfl⟩ ⟨by decide, by decide⟩ (ci := 5) rfl (mem_at 0 0 rfl rfl) rfl (Nat.le_of_ble_eq_true rfl) ⟨by decide, by decide⟩ dX4_silicaModulus_10) (is := [0, 1]) rfl [] (rs := []) rfl (by decide) (by decide) ?_
  rintro _ _ ⟨rfl, rfl⟩
  refine V_calli hC (V_runS hC (rest := []) [.int (10 * (f 1)), .int (mxMelt f)] (c_X4_quotient l G (10 * (f 1)) (mxMelt f)) [] rfl (by decide) q474 q475 q22 q476 ⟨by decide, by decide, rfl⟩ ⟨by decide, by decide⟩ rfl (Nat.le_of_ble_eq_true rfl) ⟨by decide, by decide⟩ dX4_silicaModulus_13) (is := []) rfl [0, 1] (rs := [[(a, .inr (5, [.ref am]))], [(am, .inl (G.2.1 0, 4, .inl f))]]) rfl (by decide) (by decide) ?_
  rintro _ _ ⟨rfl, rfl⟩
  exact V_iret hC hQ hr [0, 1] (u := [[(a, .inr (5, [.ref am]))], [(am, .inl (G.2.1 0, 4, .inl f))]]) (by decide) rfl (by decide) (by decide) dX4_silicaModulus_16 (⟨rfl, rfl⟩)
set_option maxHeartbeats 4000000 in
set_option maxRecDepth 100000 in
/-- ClinkerWorks$Mix.aluminaModulus -/
theorem c_X4_aluminaModulus (l : Launch) (G : VG) (a am : Nat) (f : Nat → Int32) : Mi l G yX4_aluminaModulus cX4_aluminaModulus 1 .int 1 21 0 0 [.ref a] [[(a, .inr (5, [.ref am]))], [(am, .inl (G.2.1 0, 4, .inl f))]] (fun r u => r = mxAlu f ∧ u = [[(a, .inr (5, [.ref am]))], [(am, .inl (G.2.1 0, 4, .inl f))]]) := by
  refine Mi_of (by decide) (Nat.le_of_ble_eq_true rfl) (fun pP eE sS mM aA bB tT cC AA QQ hC hr hnm hQ => ?_)
  refine V_bipush hC dX4_aluminaModulus_0 (v := 10) (by decide) ?_
  refine V_aload_n hC dX4_aluminaModulus_2 0 rfl ?_
  refine V_get hC dX4_aluminaModulus_3 inAX4 (mem_at 0 0 rfl rfl) rfl 0 (by decide) q77 rfl (v := .ref am) rfl ?_
  refine V_iconst hC dX4_aluminaModulus_6 (v := 2) (by decide) ?_
  refine V_iald hC dX4_aluminaModulus_7 (mem_at 1 0 rfl rfl) (vin (by decide)) (x := 2) (by decide) ?_
  refine V_imul hC dX4_aluminaModulus_8 ?_
  refine V_aload_n hC dX4_aluminaModulus_9 0 rfl ?_
  refine V_get hC dX4_aluminaModulus_10 inAX4 (mem_at 0 0 rfl rfl) rfl 0 (by decide) q77 rfl (v := .ref am) rfl ?_
  refine V_iconst hC dX4_aluminaModulus_13 (v := 3) (by decide) ?_
  refine V_iald hC dX4_aluminaModulus_14 (mem_at 1 0 rfl rfl) (vin (by decide)) (x := 3) (by decide) ?_
  refine V_calli hC (V_runS hC (rest := []) [.int (10 * (f 2)), .int (f 3)] (c_X4_quotient l G (10 * (f 2)) (f 3)) [] rfl (by decide) q474 q475 q22 q476 ⟨by decide, by decide, rfl⟩ ⟨by decide, by decide⟩ rfl (Nat.le_of_ble_eq_true rfl) ⟨by decide, by decide⟩ dX4_aluminaModulus_15) (is := []) rfl [0, 1] (rs := [[(a, .inr (5, [.ref am]))], [(am, .inl (G.2.1 0, 4, .inl f))]]) rfl (by decide) (by decide) ?_
  rintro _ _ ⟨rfl, rfl⟩
  exact V_iret hC hQ hr [0, 1] (u := [[(a, .inr (5, [.ref am]))], [(am, .inl (G.2.1 0, 4, .inl f))]]) (by decide) rfl (by decide) (by decide) dX4_aluminaModulus_18 (⟨rfl, rfl⟩)
set_option maxHeartbeats 4000000 in
set_option maxRecDepth 100000 in
/-- ClinkerWorks$Mix.isRight -/
theorem c_X4_isRight (l : Launch) (G : VG) (a am : Nat) (f : Nat → Int32) : Mi l G yX4_isRight cX4_isRight 1 .boolean 2 41 0 0 [.ref a] [[(a, .inr (5, [.ref am]))], [(am, .inl (G.2.1 0, 4, .inl f))]] (fun r u => r = mxRight f ∧ u = [[(a, .inr (5, [.ref am]))], [(am, .inl (G.2.1 0, 4, .inl f))]]) := by
  refine Mi_of (by decide) (Nat.le_of_ble_eq_true rfl) (fun pP eE sS mM aA bB tT cC AA QQ hC hr hnm hQ => ?_)
  refine V_aload_n hC dX4_isRight_0 0 rfl ?_
  refine V_calli hC (V_runV hC (rest := []) [] (c_X4_saturation l G a am f) [0, 1] rfl (by decide) q578 q471 q472 q22 q473 ⟨by decide, by decide, rfl⟩ ⟨by decide, by decide⟩ (ci := 5) rfl (mem_at 0 0 rfl rfl) rfl (Nat.le_of_ble_eq_true rfl) ⟨by decide, by decide⟩ dX4_isRight_1) (is := [0, 1]) rfl [] (rs := []) rfl (by decide) (by decide) ?_
  rintro _ _ ⟨rfl, rfl⟩
  refine V_bipush hC dX4_isRight_4 (v := 80) (by decide) ?_
  refine V_bipush hC dX4_isRight_6 (v := 110) (by decide) ?_
  refine V_calli hC (V_runS hC (rest := []) [.int (mxSat f), .int 80, .int 110] (c_X4_isWithin l G (mxSat f) 80 110) [] rfl (by decide) q579 q580 q22 q581 ⟨by decide, by decide, rfl⟩ ⟨by decide, by decide⟩ rfl (Nat.le_of_ble_eq_true rfl) ⟨by decide, by decide⟩ dX4_isRight_8) (is := []) rfl [0, 1] (rs := [[(a, .inr (5, [.ref am]))], [(am, .inl (G.2.1 0, 4, .inl f))]]) rfl (by decide) (by decide) ?_
  rintro _ _ ⟨rfl, rfl⟩
  refine V_if_eq hC dX4_isRight_11 (tgt := 45) (by decide) (fun h1 => ?_) (fun h1 => ?_)
  · refine V_iconst hC dX4_isRight_45 (v := 0) (by decide) ?_
    exact V_zret hC hQ hr (by decide) [0, 1] (u := [[(a, .inr (5, [.ref am]))], [(am, .inl (G.2.1 0, 4, .inl f))]]) (by decide) rfl (by decide) (by decide) dX4_isRight_46 (⟨by simp_all [mxRight], rfl⟩)
  · refine V_aload_n hC dX4_isRight_14 0 rfl ?_
    refine V_calli hC (V_runV hC (rest := []) [] (c_X4_silicaModulus l G a am f) [0, 1] rfl (by decide) q582 q566 q567 q22 q568 ⟨by decide, by decide, rfl⟩ ⟨by decide, by decide⟩ (ci := 5) rfl (mem_at 0 0 rfl rfl) rfl (Nat.le_of_ble_eq_true rfl) ⟨by decide, by decide⟩ dX4_isRight_15) (is := [0, 1]) rfl [] (rs := []) rfl (by decide) (by decide) ?_
    rintro _ _ ⟨rfl, rfl⟩
    refine V_bipush hC dX4_isRight_18 (v := 12) (by decide) ?_
    refine V_bipush hC dX4_isRight_20 (v := 40) (by decide) ?_
    refine V_calli hC (V_runS hC (rest := []) [.int (mxSil f), .int 12, .int 40] (c_X4_isWithin l G (mxSil f) 12 40) [] rfl (by decide) q579 q580 q22 q581 ⟨by decide, by decide, rfl⟩ ⟨by decide, by decide⟩ rfl (Nat.le_of_ble_eq_true rfl) ⟨by decide, by decide⟩ dX4_isRight_22) (is := []) rfl [0, 1] (rs := [[(a, .inr (5, [.ref am]))], [(am, .inl (G.2.1 0, 4, .inl f))]]) rfl (by decide) (by decide) ?_
    rintro _ _ ⟨rfl, rfl⟩
    refine V_if_eq hC dX4_isRight_25 (tgt := 45) (by decide) (fun h2 => ?_) (fun h2 => ?_)
    · refine V_iconst hC dX4_isRight_45 (v := 0) (by decide) ?_
      exact V_zret hC hQ hr (by decide) [0, 1] (u := [[(a, .inr (5, [.ref am]))], [(am, .inl (G.2.1 0, 4, .inl f))]]) (by decide) rfl (by decide) (by decide) dX4_isRight_46 (⟨by simp_all [mxRight], rfl⟩)
    · refine V_aload_n hC dX4_isRight_28 0 rfl ?_
      refine V_calli hC (V_runV hC (rest := []) [] (c_X4_aluminaModulus l G a am f) [0, 1] rfl (by decide) q583 q571 q572 q22 q573 ⟨by decide, by decide, rfl⟩ ⟨by decide, by decide⟩ (ci := 5) rfl (mem_at 0 0 rfl rfl) rfl (Nat.le_of_ble_eq_true rfl) ⟨by decide, by decide⟩ dX4_isRight_29) (is := [0, 1]) rfl [] (rs := []) rfl (by decide) (by decide) ?_
      rintro _ _ ⟨rfl, rfl⟩
      refine V_iconst hC dX4_isRight_32 (v := 5) (by decide) ?_
      refine V_bipush hC dX4_isRight_33 (v := 40) (by decide) ?_
      refine V_calli hC (V_runS hC (rest := []) [.int (mxAlu f), .int 5, .int 40] (c_X4_isWithin l G (mxAlu f) 5 40) [] rfl (by decide) q579 q580 q22 q581 ⟨by decide, by decide, rfl⟩ ⟨by decide, by decide⟩ rfl (Nat.le_of_ble_eq_true rfl) ⟨by decide, by decide⟩ dX4_isRight_35) (is := []) rfl [0, 1] (rs := [[(a, .inr (5, [.ref am]))], [(am, .inl (G.2.1 0, 4, .inl f))]]) rfl (by decide) (by decide) ?_
      rintro _ _ ⟨rfl, rfl⟩
      refine V_if_eq hC dX4_isRight_38 (tgt := 45) (by decide) (fun h3 => ?_) (fun h3 => ?_)
      · refine V_iconst hC dX4_isRight_45 (v := 0) (by decide) ?_
        exact V_zret hC hQ hr (by decide) [0, 1] (u := [[(a, .inr (5, [.ref am]))], [(am, .inl (G.2.1 0, 4, .inl f))]]) (by decide) rfl (by decide) (by decide) dX4_isRight_46 (⟨by simp_all [mxRight], rfl⟩)
      · refine V_iconst hC dX4_isRight_41 (v := 1) (by decide) ?_
        refine V_goto hC dX4_isRight_42 (tgt := 46) (by decide) ?_
        exact V_zret hC hQ hr (by decide) [0, 1] (u := [[(a, .inr (5, [.ref am]))], [(am, .inl (G.2.1 0, 4, .inl f))]]) (by decide) rfl (by decide) (by decide) dX4_isRight_46 (⟨by simp_all [mxRight], rfl⟩)
set_option maxHeartbeats 4000000 in
set_option maxRecDepth 100000 in
/-- ClinkerWorks$Mix.addBins -/
theorem c_X4_addBins (l : Launch) (G : VG) (a am : Nat) (f : Nat → Int32) (x y z : Int32) : Mv l G yX4_addBins cX4_addBins 4 0 0 0 0 [.ref a, .int x, .int y, .int z] [[(a, .inr (5, [.ref am]))], [(am, .inl (G.2.1 0, 4, .inl f))]] (fun u => u = [[(a, .inr (5, [.ref am]))], [(am, .inl (G.2.1 0, 4, .inl (mxBins f x y z)))]]) := by
  refine Mv_of (by decide) (Nat.le_of_ble_eq_true rfl) (fun pP eE sS mM aA bB tT cC AA QQ hC hr hnm hQ => ?_)
  refine V_aload_n hC dX4_addBins_0 0 rfl ?_
  refine V_get hC dX4_addBins_1 inAX4 (mem_at 0 0 rfl rfl) rfl 0 (by decide) q77 rfl (v := .ref am) rfl ?_
  refine V_iconst hC dX4_addBins_4 (v := 1) (by decide) ?_
  refine V_dup2 hC dX4_addBins_5 rfl rfl ?_
  refine V_iald hC dX4_addBins_6 (mem_at 1 0 rfl rfl) (vin (by decide)) (x := 1) (by decide) ?_
  refine V_bipush hC dX4_addBins_7 (v := 9) (by decide) ?_
  refine V_iload_n hC dX4_addBins_9 1 rfl ?_
  refine V_imul hC dX4_addBins_10 ?_
  refine V_iconst hC dX4_addBins_11 (v := 3) (by decide) ?_
  refine V_iload_n hC dX4_addBins_12 2 rfl ?_
  refine V_imul hC dX4_addBins_13 ?_
  refine V_iadd hC dX4_addBins_14 ?_
  refine V_iadd hC dX4_addBins_15 ?_
  refine V_iast hC dX4_addBins_16 1 0 rfl rfl (vin (by decide)) (z := 1) (by decide) (ps' := [[(a, .inr (5, [.ref am]))], [(am, .inl (G.2.1 0, 4, .inl (upd f 1 ((f 1) + ((9 * x) + (3 * y))))))]]) rfl ?_
  refine V_aload_n hC dX4_addBins_17 0 rfl ?_
  refine V_get hC dX4_addBins_18 inAX4 (mem_at 0 0 rfl rfl) rfl 0 (by decide) q77 rfl (v := .ref am) rfl ?_
  refine V_iconst hC dX4_addBins_21 (v := 2) (by decide) ?_
  refine V_dup2 hC dX4_addBins_22 rfl rfl ?_
  refine V_iald hC dX4_addBins_23 (mem_at 1 0 rfl rfl) (vin (by decide)) (x := 2) (by decide) ?_
  refine V_bipush hC dX4_addBins_24 (v := 6) (by decide) ?_
  refine V_iload_n hC dX4_addBins_26 2 rfl ?_
  refine V_imul hC dX4_addBins_27 ?_
  refine V_iadd hC dX4_addBins_28 ?_
  refine V_iast hC dX4_addBins_29 1 0 rfl rfl (vin (by decide)) (z := 2) (by decide) (ps' := [[(a, .inr (5, [.ref am]))], [(am, .inl (G.2.1 0, 4, .inl (upd (upd f 1 ((f 1) + ((9 * x) + (3 * y)))) 2 ((f 2) + (6 * y)))))]]) rfl ?_
  refine V_aload_n hC dX4_addBins_30 0 rfl ?_
  refine V_get hC dX4_addBins_31 inAX4 (mem_at 0 0 rfl rfl) rfl 0 (by decide) q77 rfl (v := .ref am) rfl ?_
  refine V_iconst hC dX4_addBins_34 (v := 3) (by decide) ?_
  refine V_dup2 hC dX4_addBins_35 rfl rfl ?_
  refine V_iald hC dX4_addBins_36 (mem_at 1 0 rfl rfl) (vin (by decide)) (x := 3) (by decide) ?_
  refine V_bipush hC dX4_addBins_37 (v := 9) (by decide) ?_
  refine V_iload_n hC dX4_addBins_39 3 rfl ?_
  refine V_imul hC dX4_addBins_40 ?_
  refine V_iadd hC dX4_addBins_41 ?_
  refine V_iast hC dX4_addBins_42 1 0 rfl rfl (vin (by decide)) (z := 3) (by decide) (ps' := [[(a, .inr (5, [.ref am]))], [(am, .inl (G.2.1 0, 4, .inl (upd (upd (upd f 1 ((f 1) + ((9 * x) + (3 * y)))) 2 ((f 2) + (6 * y))) 3 ((f 3) + (9 * z)))))]]) rfl ?_
  exact V_vret hC hQ hr [0, 1] (u := [[(a, .inr (5, [.ref am]))], [(am, .inl (G.2.1 0, 4, .inl (upd (upd (upd f 1 ((f 1) + ((9 * x) + (3 * y)))) 2 ((f 2) + (6 * y))) 3 ((f 3) + (9 * z)))))]]) (by decide) rfl (by decide) (by decide) dX4_addBins_43 (rfl)
