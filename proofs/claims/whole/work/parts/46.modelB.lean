/-! ===== the model: its charge ===== -/
def hv9 (a b c d e f g h i : Int32) : Nat → Int32 := fun k => match k with
  | 0 => a
  | 1 => b
  | 2 => c
  | 3 => d
  | 4 => e
  | 5 => f
  | 6 => g
  | 7 => h
  | _ => i
/-- raw free sand belite alite fineness gypsum silo sacks; oxides; parts; found -/
abbrev MV : Type := (Nat → Int32) × (Nat → Int32) × (Nat → Int32) × (Nat → Int32)
def mcP (G : VG) (q : Nat → Nat) (z : MV) : va_W := [(q 0, .inr (10, [.ref (q 1), .ref (q 2), .int (z.1 0), .int (z.1 1), .int (z.1 2), .int (z.1 3), .int (z.1 4), .int (z.1 5), .int (z.1 6), .int (z.1 7), .int (z.1 8), .ref (q 3)])), (q 1, .inl (G.2.1 0, 4, .inl z.2.1)), (q 2, .inl (G.2.1 0, 6, .inl z.2.2.1)), (q 3, .inl (G.2.1 0, 3, .inl z.2.2.2))]
def moBegin (z : MV) : MV := (hv9 (z.2.1 0) (z.1 1) (z.2.1 1) (z.1 3) (z.1 4) (z.1 5) (z.1 6) (z.1 7) (z.1 8), z.2.1, z.2.2.1, z.2.2.2)
def moGr (z : MV) : Int32 := if z.1 7 = -1 then 0 else 1
def moStr (z : MV) (x : Int32) : Int32 := mx 0 ((z.1 4 * (2 + x) + z.1 3 * (if x = 2 then 3 else x)) * 10 / moAll z.2.1 + z.1 5 * (2 - x) - 2 * z.1 1 - 3 * ab (z.1 6 - z.2.1 2 / 4 - 2))
def moOf (z : MV) (w : Nat) : Int32 := match w with
  | 0 => z.2.1 0
  | 1 => z.2.1 1
  | 2 => z.2.1 2
  | 3 => z.2.1 3
  | 4 => z.1 0
  | 5 => z.1 1
  | 6 => z.1 2
  | 7 => z.1 3
  | 8 => z.1 4
  | 9 => z.1 5
  | 10 => z.1 6
  | 11 => z.1 7
  | 12 => z.1 8
  | 13 => z.2.2.2 0
  | 14 => z.2.2.2 1
  | 15 => z.2.2.2 2
  | k + 16 => z.2.2.1 k
def mo0 : MV := (hv9 0 0 0 0 0 (-1) (-1) (-1) 0, fun _ => 0, fun _ => 0, upd (upd (upd (fun _ => 0) 0 (-1)) 1 (-1)) 2 (-1))
set_option maxHeartbeats 4000000 in
set_option maxRecDepth 100000 in
/-- ClinkerWorksModel$Charge.begin -/
theorem c_X9_begin (l : Launch) (G : VG) (q : Nat → Nat) (z : MV) : Mv l G yX9_begin cX9_begin 1 0 0 0 0 [.ref (q 0)] [mcP G q z] (fun u => u = [mcP G q (moBegin z)]) := by
  refine Mv_of (by decide) (Nat.le_of_ble_eq_true rfl) (fun pP eE sS mM aA bB tT cC AA QQ hC hr hnm hQ => ?_)
  refine V_aload_n hC dX9_begin_0 0 rfl ?_
  refine V_aload_n hC dX9_begin_1 0 rfl ?_
  refine V_get hC dX9_begin_2 inAX9 (mem_at 0 0 rfl rfl) rfl 0 (by decide) q986 rfl (v := .ref (q 1)) rfl ?_
  refine V_iconst hC dX9_begin_5 (v := 0) (by decide) ?_
  refine V_iald hC dX9_begin_6 (mem_at 0 1 rfl rfl) (vin (by decide)) (x := 0) (by decide) ?_
  refine V_put hC dX9_begin_7 inAX9 tyX9 tyX9_ok nmX9 0 0 rfl rfl rfl 2 (by decide) q990 rfl rfl (rfl) (rfl) (Nat.le_of_ble_eq_true rfl) (ps' := [mcP G q (hv9 (z.2.1 0) (z.1 1) (z.1 2) (z.1 3) (z.1 4) (z.1 5) (z.1 6) (z.1 7) (z.1 8), z.2.1, z.2.2.1, z.2.2.2)]) rfl ?_
  refine V_aload_n hC dX9_begin_10 0 rfl ?_
  refine V_aload_n hC dX9_begin_11 0 rfl ?_
  refine V_get hC dX9_begin_12 inAX9 (mem_at 0 0 rfl rfl) rfl 0 (by decide) q986 rfl (v := .ref (q 1)) rfl ?_
  refine V_iconst hC dX9_begin_15 (v := 1) (by decide) ?_
  refine V_iald hC dX9_begin_16 (mem_at 0 1 rfl rfl) (vin (by decide)) (x := 1) (by decide) ?_
  refine V_put hC dX9_begin_17 inAX9 tyX9 tyX9_ok nmX9 0 0 rfl rfl rfl 4 (by decide) q995 rfl rfl (rfl) (rfl) (Nat.le_of_ble_eq_true rfl) (ps' := [mcP G q (hv9 (((hv9 (z.2.1 0) (z.1 1) (z.1 2) (z.1 3) (z.1 4) (z.1 5) (z.1 6) (z.1 7) (z.1 8), z.2.1, z.2.2.1, z.2.2.2).1) 0) (((hv9 (z.2.1 0) (z.1 1) (z.1 2) (z.1 3) (z.1 4) (z.1 5) (z.1 6) (z.1 7) (z.1 8), z.2.1, z.2.2.1, z.2.2.2).1) 1) (((hv9 (z.2.1 0) (z.1 1) (z.1 2) (z.1 3) (z.1 4) (z.1 5) (z.1 6) (z.1 7) (z.1 8), z.2.1, z.2.2.1, z.2.2.2).2.1) 1) (((hv9 (z.2.1 0) (z.1 1) (z.1 2) (z.1 3) (z.1 4) (z.1 5) (z.1 6) (z.1 7) (z.1 8), z.2.1, z.2.2.1, z.2.2.2).1) 3) (((hv9 (z.2.1 0) (z.1 1) (z.1 2) (z.1 3) (z.1 4) (z.1 5) (z.1 6) (z.1 7) (z.1 8), z.2.1, z.2.2.1, z.2.2.2).1) 4) (((hv9 (z.2.1 0) (z.1 1) (z.1 2) (z.1 3) (z.1 4) (z.1 5) (z.1 6) (z.1 7) (z.1 8), z.2.1, z.2.2.1, z.2.2.2).1) 5) (((hv9 (z.2.1 0) (z.1 1) (z.1 2) (z.1 3) (z.1 4) (z.1 5) (z.1 6) (z.1 7) (z.1 8), z.2.1, z.2.2.1, z.2.2.2).1) 6) (((hv9 (z.2.1 0) (z.1 1) (z.1 2) (z.1 3) (z.1 4) (z.1 5) (z.1 6) (z.1 7) (z.1 8), z.2.1, z.2.2.1, z.2.2.2).1) 7) (((hv9 (z.2.1 0) (z.1 1) (z.1 2) (z.1 3) (z.1 4) (z.1 5) (z.1 6) (z.1 7) (z.1 8), z.2.1, z.2.2.1, z.2.2.2).1) 8), (hv9 (z.2.1 0) (z.1 1) (z.1 2) (z.1 3) (z.1 4) (z.1 5) (z.1 6) (z.1 7) (z.1 8), z.2.1, z.2.2.1, z.2.2.2).2.1, (hv9 (z.2.1 0) (z.1 1) (z.1 2) (z.1 3) (z.1 4) (z.1 5) (z.1 6) (z.1 7) (z.1 8), z.2.1, z.2.2.1, z.2.2.2).2.2.1, (hv9 (z.2.1 0) (z.1 1) (z.1 2) (z.1 3) (z.1 4) (z.1 5) (z.1 6) (z.1 7) (z.1 8), z.2.1, z.2.2.1, z.2.2.2).2.2.2)]) rfl ?_
  exact V_vret hC hQ hr [0] (u := [mcP G q (hv9 (((hv9 (z.2.1 0) (z.1 1) (z.1 2) (z.1 3) (z.1 4) (z.1 5) (z.1 6) (z.1 7) (z.1 8), z.2.1, z.2.2.1, z.2.2.2).1) 0) (((hv9 (z.2.1 0) (z.1 1) (z.1 2) (z.1 3) (z.1 4) (z.1 5) (z.1 6) (z.1 7) (z.1 8), z.2.1, z.2.2.1, z.2.2.2).1) 1) (((hv9 (z.2.1 0) (z.1 1) (z.1 2) (z.1 3) (z.1 4) (z.1 5) (z.1 6) (z.1 7) (z.1 8), z.2.1, z.2.2.1, z.2.2.2).2.1) 1) (((hv9 (z.2.1 0) (z.1 1) (z.1 2) (z.1 3) (z.1 4) (z.1 5) (z.1 6) (z.1 7) (z.1 8), z.2.1, z.2.2.1, z.2.2.2).1) 3) (((hv9 (z.2.1 0) (z.1 1) (z.1 2) (z.1 3) (z.1 4) (z.1 5) (z.1 6) (z.1 7) (z.1 8), z.2.1, z.2.2.1, z.2.2.2).1) 4) (((hv9 (z.2.1 0) (z.1 1) (z.1 2) (z.1 3) (z.1 4) (z.1 5) (z.1 6) (z.1 7) (z.1 8), z.2.1, z.2.2.1, z.2.2.2).1) 5) (((hv9 (z.2.1 0) (z.1 1) (z.1 2) (z.1 3) (z.1 4) (z.1 5) (z.1 6) (z.1 7) (z.1 8), z.2.1, z.2.2.1, z.2.2.2).1) 6) (((hv9 (z.2.1 0) (z.1 1) (z.1 2) (z.1 3) (z.1 4) (z.1 5) (z.1 6) (z.1 7) (z.1 8), z.2.1, z.2.2.1, z.2.2.2).1) 7) (((hv9 (z.2.1 0) (z.1 1) (z.1 2) (z.1 3) (z.1 4) (z.1 5) (z.1 6) (z.1 7) (z.1 8), z.2.1, z.2.2.1, z.2.2.2).1) 8), (hv9 (z.2.1 0) (z.1 1) (z.1 2) (z.1 3) (z.1 4) (z.1 5) (z.1 6) (z.1 7) (z.1 8), z.2.1, z.2.2.1, z.2.2.2).2.1, (hv9 (z.2.1 0) (z.1 1) (z.1 2) (z.1 3) (z.1 4) (z.1 5) (z.1 6) (z.1 7) (z.1 8), z.2.1, z.2.2.1, z.2.2.2).2.2.1, (hv9 (z.2.1 0) (z.1 1) (z.1 2) (z.1 3) (z.1 4) (z.1 5) (z.1 6) (z.1 7) (z.1 8), z.2.1, z.2.2.1, z.2.2.2).2.2.2)]) (by decide) rfl (by decide) (by decide) dX9_begin_20 (rfl)
set_option maxHeartbeats 4000000 in
set_option maxRecDepth 100000 in
/-- ClinkerWorksModel$Charge.melt -/
theorem c_X9_melt (l : Launch) (G : VG) (q : Nat → Nat) (z : MV) : Mi l G yX9_melt cX9_melt 1 .int 0 0 0 0 [.ref (q 0)] [mcP G q z] (fun r u => r = z.2.1 2 + z.2.1 3 ∧ u = [mcP G q z]) := by
  refine Mi_of (by decide) (Nat.le_of_ble_eq_true rfl) (fun pP eE sS mM aA bB tT cC AA QQ hC hr hnm hQ => ?_)
  refine V_aload_n hC dX9_melt_0 0 rfl ?_
  refine V_get hC dX9_melt_1 inAX9 (mem_at 0 0 rfl rfl) rfl 0 (by decide) q986 rfl (v := .ref (q 1)) rfl ?_
  refine V_iconst hC dX9_melt_4 (v := 2) (by decide) ?_
  refine V_iald hC dX9_melt_5 (mem_at 0 1 rfl rfl) (vin (by decide)) (x := 2) (by decide) ?_
  refine V_aload_n hC dX9_melt_6 0 rfl ?_
  refine V_get hC dX9_melt_7 inAX9 (mem_at 0 0 rfl rfl) rfl 0 (by decide) q986 rfl (v := .ref (q 1)) rfl ?_
  refine V_iconst hC dX9_melt_10 (v := 3) (by decide) ?_
  refine V_iald hC dX9_melt_11 (mem_at 0 1 rfl rfl) (vin (by decide)) (x := 3) (by decide) ?_
  refine V_iadd hC dX9_melt_12 ?_
  exact V_iret hC hQ hr [0] (u := [mcP G q z]) (by decide) rfl (by decide) (by decide) dX9_melt_13 (⟨rfl, rfl⟩)
set_option maxHeartbeats 4000000 in
set_option maxRecDepth 100000 in
/-- ClinkerWorksModel$Charge.all -/
theorem c_X9_all (l : Launch) (G : VG) (q : Nat → Nat) (z : MV) : Mi l G yX9_all cX9_all 1 .int 1 13 0 0 [.ref (q 0)] [mcP G q z] (fun r u => r = moAll z.2.1 ∧ u = [mcP G q z]) := by
  refine Mi_of (by decide) (Nat.le_of_ble_eq_true rfl) (fun pP eE sS mM aA bB tT cC AA QQ hC hr hnm hQ => ?_)
  refine V_iconst hC dX9_all_0 (v := 1) (by decide) ?_
  refine V_aload_n hC dX9_all_1 0 rfl ?_
  refine V_get hC dX9_all_2 inAX9 (mem_at 0 0 rfl rfl) rfl 0 (by decide) q986 rfl (v := .ref (q 1)) rfl ?_
  refine V_iconst hC dX9_all_5 (v := 0) (by decide) ?_
  refine V_iald hC dX9_all_6 (mem_at 0 1 rfl rfl) (vin (by decide)) (x := 0) (by decide) ?_
  refine V_aload_n hC dX9_all_7 0 rfl ?_
  refine V_get hC dX9_all_8 inAX9 (mem_at 0 0 rfl rfl) rfl 0 (by decide) q986 rfl (v := .ref (q 1)) rfl ?_
  refine V_iconst hC dX9_all_11 (v := 1) (by decide) ?_
  refine V_iald hC dX9_all_12 (mem_at 0 1 rfl rfl) (vin (by decide)) (x := 1) (by decide) ?_
  refine V_iadd hC dX9_all_13 ?_
  refine V_aload_n hC dX9_all_14 0 rfl ?_
  refine V_get hC dX9_all_15 inAX9 (mem_at 0 0 rfl rfl) rfl 0 (by decide) q986 rfl (v := .ref (q 1)) rfl ?_
  refine V_iconst hC dX9_all_18 (v := 2) (by decide) ?_
  refine V_iald hC dX9_all_19 (mem_at 0 1 rfl rfl) (vin (by decide)) (x := 2) (by decide) ?_
  refine V_iadd hC dX9_all_20 ?_
  refine V_aload_n hC dX9_all_21 0 rfl ?_
  refine V_get hC dX9_all_22 inAX9 (mem_at 0 0 rfl rfl) rfl 0 (by decide) q986 rfl (v := .ref (q 1)) rfl ?_
  refine V_iconst hC dX9_all_25 (v := 3) (by decide) ?_
  refine V_iald hC dX9_all_26 (mem_at 0 1 rfl rfl) (vin (by decide)) (x := 3) (by decide) ?_
  refine V_iadd hC dX9_all_27 ?_
  refine V_mmax hC q1343 q694 q65 q695 (by decide) (Nat.le_of_ble_eq_true rfl) (by decide) (by decide) dX9_all_28 ?_
  exact V_iret hC hQ hr [0] (u := [mcP G q z]) (by decide) rfl (by decide) (by decide) dX9_all_31 (⟨rfl, rfl⟩)
set_option maxHeartbeats 4000000 in
set_option maxRecDepth 100000 in
/-- ClinkerWorksModel$Charge.isGround -/
theorem c_X9_isGround (l : Launch) (G : VG) (q : Nat → Nat) (z : MV) : Mi l G yX9_isGround cX9_isGround 1 .boolean 0 0 0 0 [.ref (q 0)] [mcP G q z] (fun r u => r = moGr z ∧ u = [mcP G q z]) := by
  refine Mi_of (by decide) (Nat.le_of_ble_eq_true rfl) (fun pP eE sS mM aA bB tT cC AA QQ hC hr hnm hQ => ?_)
  refine V_aload_n hC dX9_isGround_0 0 rfl ?_
  refine V_get hC dX9_isGround_1 inAX9 (mem_at 0 0 rfl rfl) rfl 9 (by decide) q1005 rfl (v := .int (z.1 7)) rfl ?_
  refine V_iconst hC dX9_isGround_4 (v := (-1)) (by decide) ?_
  refine V_icmp_eq hC dX9_isGround_5 (tgt := 12) (by decide) (fun h1 => ?_) (fun h1 => ?_)
  · refine V_iconst hC dX9_isGround_12 (v := 0) (by decide) ?_
    exact V_zret hC hQ hr (by decide) [0] (u := [mcP G q z]) (by decide) rfl (by decide) (by decide) dX9_isGround_13 (⟨by unfold moGr; rw [if_pos h1], rfl⟩)
  · refine V_iconst hC dX9_isGround_8 (v := 1) (by decide) ?_
    refine V_goto hC dX9_isGround_9 (tgt := 13) (by decide) ?_
    exact V_zret hC hQ hr (by decide) [0] (u := [mcP G q z]) (by decide) rfl (by decide) (by decide) dX9_isGround_13 (⟨by unfold moGr; rw [if_neg h1], rfl⟩)
