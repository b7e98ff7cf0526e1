/-! ===== the model: its charge ===== -/
def hv9 (a b c d e f g h i : Int32) : Nat → Int32 := fun k => match k with
  | 0 => a
  | 1 => b
  | 2 => c
  | 3 => d
  | 4 => e
  | 5 => f
  | 6 => g
  | 7 => h
  | _ => i
/-- raw free sand belite alite fineness gypsum silo sacks; oxides; parts; found -/
abbrev MV : Type := (Nat → Int32) × (Nat → Int32) × (Nat → Int32) × (Nat → Int32)
def mcP (G : VG) (q : Nat → Nat) (z : MV) : va_W := [(q 0, .inr (10, [.ref (q 1), .ref (q 2), .int (z.1 0), .int (z.1 1), .int (z.1 2), .int (z.1 3), .int (z.1 4), .int (z.1 5), .int (z.1 6), .int (z.1 7), .int (z.1 8), .ref (q 3)])), (q 1, .inl (G.2.1 0, 4, .inl z.2.1)), (q 2, .inl (G.2.1 0, 6, .inl z.2.2.1)), (q 3, .inl (G.2.1 0, 3, .inl z.2.2.2))]
def moBegin (z : MV) : MV := (hv9 (z.2.1 0) (z.1 1) (z.2.1 1) (z.1 3) (z.1 4) (z.1 5) (z.1 6) (z.1 7) (z.1 8), z.2.1, z.2.2.1, z.2.2.2)
def moGr (z : MV) : Int32 := if z.1 7 = -1 then 0 else 1
def moStr (z : MV) (x : Int32) : Int32 := mx 0 ((z.1 4 * (2 + x) + z.1 3 * (if x = 2 then 3 else x)) * 10 / moAll z.2.1 + z.1 5 * (2 - x) - 2 * z.1 1 - 3 * ab (z.1 6 - z.2.1 2 / 4 - 2))
def moOf (z : MV) (w : Nat) : Int32 := match w with
  | 0 => z.2.1 0
  | 1 => z.2.1 1
  | 2 => z.2.1 2
  | 3 => z.2.1 3
  | 4 => z.1 0
  | 5 => z.1 1
  | 6 => z.1 2
  | 7 => z.1 3
  | 8 => z.1 4
  | 9 => z.1 5
  | 10 => z.1 6
  | 11 => z.1 7
  | 12 => z.1 8
  | 13 => z.2.2.2 0
  | 14 => z.2.2.2 1
  | 15 => z.2.2.2 2
  | k + 16 => z.2.2.1 k
def mo0 : MV := (hv9 0 0 0 0 0 (-1) (-1) (-1) 0, fun _ => 0, fun _ => 0, upd (upd (upd (fun _ => 0) 0 (-1)) 1 (-1)) 2 (-1))
theorem moAll_ne (f : Nat → Int32) : ¬ moAll f = 0 := by
  unfold moAll mx
  intro h
  split at h
  · rename_i hh
    rw [h] at hh
    exact absurd hh (by decide)
  · exact absurd h (by decide)
set_option maxHeartbeats 4000000 in
set_option maxRecDepth 100000 in
/-- ClinkerWorksModel$Charge.begin -/
theorem c_X9_begin (l : Launch) (G : VG) (q : Nat → Nat) (z : MV) : Mv l G yX9_begin cX9_begin 1 0 0 0 0 [.ref (q 0)] [mcP G q z] (fun u => u = [mcP G q (moBegin z)]) := by
  refine Mv_of (by decide) (Nat.le_of_ble_eq_true rfl) (fun pP eE sS mM aA bB tT cC AA QQ hC hr hnm hQ => ?_)
  refine V_aload_n hC dX9_begin_0 0 rfl ?_
  refine V_aload_n hC dX9_begin_1 0 rfl ?_
  refine V_get hC dX9_begin_2 inAX9 (mem_at 0 0 rfl rfl) rfl 0 (by decide) q986 rfl (v := .ref (q 1)) rfl ?_
  refine V_iconst hC dX9_begin_5 (v := 0) (by decide) ?_
  refine V_iald hC dX9_begin_6 (mem_at 0 1 rfl rfl) (vin (by decide)) (x := 0) (by decide) ?_
  refine V_put hC dX9_begin_7 inAX9 tyX9 tyX9_ok nmX9 0 0 rfl rfl rfl 2 (by decide) q990 rfl rfl (rfl) (rfl) (Nat.le_of_ble_eq_true rfl) (ps' := [mcP G q (hv9 (z.2.1 0) (z.1 1) (z.1 2) (z.1 3) (z.1 4) (z.1 5) (z.1 6) (z.1 7) (z.1 8), z.2.1, z.2.2.1, z.2.2.2)]) rfl ?_
  refine V_aload_n hC dX9_begin_10 0 rfl ?_
  refine V_aload_n hC dX9_begin_11 0 rfl ?_
  refine V_get hC dX9_begin_12 inAX9 (mem_at 0 0 rfl rfl) rfl 0 (by decide) q986 rfl (v := .ref (q 1)) rfl ?_
  refine V_iconst hC dX9_begin_15 (v := 1) (by decide) ?_
  refine V_iald hC dX9_begin_16 (mem_at 0 1 rfl rfl) (vin (by decide)) (x := 1) (by decide) ?_
  refine V_put hC dX9_begin_17 inAX9 tyX9 tyX9_ok nmX9 0 0 rfl rfl rfl 4 (by decide) q995 rfl rfl (rfl) (rfl) (Nat.le_of_ble_eq_true rfl) (ps' := [mcP G q (hv9 (z.2.1 0) (z.1 1) (z.2.1 1) (z.1 3) (z.1 4) (z.1 5) (z.1 6) (z.1 7) (z.1 8), z.2.1, z.2.2.1, z.2.2.2)]) rfl ?_
  exact V_vret hC hQ hr [0] (u := [mcP G q (hv9 (z.2.1 0) (z.1 1) (z.2.1 1) (z.1 3) (z.1 4) (z.1 5) (z.1 6) (z.1 7) (z.1 8), z.2.1, z.2.2.1, z.2.2.2)]) (by decide) rfl (by decide) (by decide) dX9_begin_20 (rfl)
set_option maxHeartbeats 4000000 in
set_option maxRecDepth 100000 in
/-- ClinkerWorksModel$Charge.melt -/
theorem c_X9_melt (l : Launch) (G : VG) (q : Nat → Nat) (z : MV) : Mi l G yX9_melt cX9_melt 1 .int 0 0 0 0 [.ref (q 0)] [mcP G q z] (fun r u => r = z.2.1 2 + z.2.1 3 ∧ u = [mcP G q z]) := by
  refine Mi_of (by decide) (Nat.le_of_ble_eq_true rfl) (fun pP eE sS mM aA bB tT cC AA QQ hC hr hnm hQ => ?_)
  refine V_aload_n hC dX9_melt_0 0 rfl ?_
  refine V_get hC dX9_melt_1 inAX9 (mem_at 0 0 rfl rfl) rfl 0 (by decide) q986 rfl (v := .ref (q 1)) rfl ?_
  refine V_iconst hC dX9_melt_4 (v := 2) (by decide) ?_
  refine V_iald hC dX9_melt_5 (mem_at 0 1 rfl rfl) (vin (by decide)) (x := 2) (by decide) ?_
  refine V_aload_n hC dX9_melt_6 0 rfl ?_
  refine V_get hC dX9_melt_7 inAX9 (mem_at 0 0 rfl rfl) rfl 0 (by decide) q986 rfl (v := .ref (q 1)) rfl ?_
  refine V_iconst hC dX9_melt_10 (v := 3) (by decide) ?_
  refine V_iald hC dX9_melt_11 (mem_at 0 1 rfl rfl) (vin (by decide)) (x := 3) (by decide) ?_
  refine V_iadd hC dX9_melt_12 ?_
  exact V_iret hC hQ hr [0] (u := [mcP G q z]) (by decide) rfl (by decide) (by decide) dX9_melt_13 (⟨rfl, rfl⟩)
set_option maxHeartbeats 4000000 in
set_option maxRecDepth 100000 in
/-- ClinkerWorksModel$Charge.all -/
theorem c_X9_all (l : Launch) (G : VG) (q : Nat → Nat) (z : MV) : Mi l G yX9_all cX9_all 1 .int 1 13 0 0 [.ref (q 0)] [mcP G q z] (fun r u => r = moAll z.2.1 ∧ u = [mcP G q z]) := by
  refine Mi_of (by decide) (Nat.le_of_ble_eq_true rfl) (fun pP eE sS mM aA bB tT cC AA QQ hC hr hnm hQ => ?_)
  refine V_iconst hC dX9_all_0 (v := 1) (by decide) ?_
  refine V_aload_n hC dX9_all_1 0 rfl ?_
  refine V_get hC dX9_all_2 inAX9 (mem_at 0 0 rfl rfl) rfl 0 (by decide) q986 rfl (v := .ref (q 1)) rfl ?_
  refine V_iconst hC dX9_all_5 (v := 0) (by decide) ?_
  refine V_iald hC dX9_all_6 (mem_at 0 1 rfl rfl) (vin (by decide)) (x := 0) (by decide) ?_
  refine V_aload_n hC dX9_all_7 0 rfl ?_
  refine V_get hC dX9_all_8 inAX9 (mem_at 0 0 rfl rfl) rfl 0 (by decide) q986 rfl (v := .ref (q 1)) rfl ?_
  refine V_iconst hC dX9_all_11 (v := 1) (by decide) ?_
  refine V_iald hC dX9_all_12 (mem_at 0 1 rfl rfl) (vin (by decide)) (x := 1) (by decide) ?_
  refine V_iadd hC dX9_all_13 ?_
  refine V_aload_n hC dX9_all_14 0 rfl ?_
  refine V_get hC dX9_all_15 inAX9 (mem_at 0 0 rfl rfl) rfl 0 (by decide) q986 rfl (v := .ref (q 1)) rfl ?_
  refine V_iconst hC dX9_all_18 (v := 2) (by decide) ?_
  refine V_iald hC dX9_all_19 (mem_at 0 1 rfl rfl) (vin (by decide)) (x := 2) (by decide) ?_
  refine V_iadd hC dX9_all_20 ?_
  refine V_aload_n hC dX9_all_21 0 rfl ?_
  refine V_get hC dX9_all_22 inAX9 (mem_at 0 0 rfl rfl) rfl 0 (by decide) q986 rfl (v := .ref (q 1)) rfl ?_
  refine V_iconst hC dX9_all_25 (v := 3) (by decide) ?_
  refine V_iald hC dX9_all_26 (mem_at 0 1 rfl rfl) (vin (by decide)) (x := 3) (by decide) ?_
  refine V_iadd hC dX9_all_27 ?_
  refine V_mmax hC q1343 q694 q65 q695 (by decide) (Nat.le_of_ble_eq_true rfl) (by decide) (by decide) dX9_all_28 ?_
  exact V_iret hC hQ hr [0] (u := [mcP G q z]) (by decide) rfl (by decide) (by decide) dX9_all_31 (⟨rfl, rfl⟩)
set_option maxHeartbeats 4000000 in
set_option maxRecDepth 100000 in
/-- ClinkerWorksModel$Charge.isGround -/
theorem c_X9_isGround (l : Launch) (G : VG) (q : Nat → Nat) (z : MV) : Mi l G yX9_isGround cX9_isGround 1 .boolean 0 0 0 0 [.ref (q 0)] [mcP G q z] (fun r u => r = moGr z ∧ u = [mcP G q z]) := by
  refine Mi_of (by decide) (Nat.le_of_ble_eq_true rfl) (fun pP eE sS mM aA bB tT cC AA QQ hC hr hnm hQ => ?_)
  refine V_aload_n hC dX9_isGround_0 0 rfl ?_
  refine V_get hC dX9_isGround_1 inAX9 (mem_at 0 0 rfl rfl) rfl 9 (by decide) q1005 rfl (v := .int (z.1 7)) rfl ?_
  refine V_iconst hC dX9_isGround_4 (v := (-1)) (by decide) ?_
  refine V_icmp_eq hC dX9_isGround_5 (tgt := 12) (by decide) (fun h1 => ?_) (fun h1 => ?_)
  · refine V_iconst hC dX9_isGround_12 (v := 0) (by decide) ?_
    exact V_zret hC hQ hr (by decide) [0] (u := [mcP G q z]) (by decide) rfl (by decide) (by decide) dX9_isGround_13 (⟨by unfold moGr; rw [if_pos h1], rfl⟩)
  · refine V_iconst hC dX9_isGround_8 (v := 1) (by decide) ?_
    refine V_goto hC dX9_isGround_9 (tgt := 13) (by decide) ?_
    exact V_zret hC hQ hr (by decide) [0] (u := [mcP G q z]) (by decide) rfl (by decide) (by decide) dX9_isGround_13 (⟨by unfold moGr; rw [if_neg h1], rfl⟩)
set_option maxHeartbeats 4000000 in
set_option maxRecDepth 100000 in
/-- ClinkerWorksModel$Charge.strength -/
theorem c_X9_strength (l : Launch) (G : VG) (q : Nat → Nat) (z : MV) (x : Int32) : Mi l G yX9_strength cX9_strength 3 .int 2 33 0 0 [.ref (q 0), .int x] [mcP G q z] (fun r u => r = moStr z x ∧ u = [mcP G q z]) := by
  refine Mi_of (by decide) (Nat.le_of_ble_eq_true rfl) (fun pP eE sS mM aA bB tT cC AA QQ hC hr hnm hQ => ?_)
  refine V_aload_n hC dX9_strength_0 0 rfl ?_
  refine V_get hC dX9_strength_1 inAX9 (mem_at 0 0 rfl rfl) rfl 6 (by decide) q999 rfl (v := .int (z.1 4)) rfl ?_
  refine V_iconst hC dX9_strength_4 (v := 2) (by decide) ?_
  refine V_iload_n hC dX9_strength_5 1 rfl ?_
  refine V_iadd hC dX9_strength_6 ?_
  refine V_imul hC dX9_strength_7 ?_
  refine V_aload_n hC dX9_strength_8 0 rfl ?_
  refine V_get hC dX9_strength_9 inAX9 (mem_at 0 0 rfl rfl) rfl 5 (by decide) q997 rfl (v := .int (z.1 3)) rfl ?_
  refine V_iload_n hC dX9_strength_12 1 rfl ?_
  refine V_iconst hC dX9_strength_13 (v := 2) (by decide) ?_
  refine V_icmp_ne hC dX9_strength_14 (tgt := 21) (by decide) (fun h1 => ?_) (fun h1 => ?_)
  · refine V_iload_n hC dX9_strength_21 1 rfl ?_
    refine V_imul hC dX9_strength_22 ?_
    refine V_iadd hC dX9_strength_23 ?_
    refine V_bipush hC dX9_strength_24 (v := 10) (by decide) ?_
    refine V_imul hC dX9_strength_26 ?_
    refine V_aload_n hC dX9_strength_27 0 rfl ?_
    refine V_calli hC (V_runV hC (rest := [.int ((((z.1 4) * (2 + x)) + ((z.1 3) * x)) * 10)]) [] (c_X9_all l G q z) [0] rfl (by decide) q1386 q1367 q1368 q57 q1369 ⟨by decide, by decide, rfl⟩ ⟨by decide, by decide⟩ (ci := 10) rfl (mem_at 0 0 rfl rfl) rfl (Nat.le_of_ble_eq_true rfl) ⟨by decide, by decide⟩ dX9_strength_28) (is := [0]) rfl [] (rs := []) rfl (by decide) (by decide) ?_
    rintro _ _ ⟨rfl, rfl⟩
    refine V_idiv hC dX9_strength_31 (moAll_ne _) ?_
    refine V_istore_n hC dX9_strength_32 (L' := [(2, .int (((((z.1 4) * (2 + x)) + ((z.1 3) * x)) * 10) / (moAll z.2.1))), (0, .ref (q 0)), (1, .int x)]) (by decide) rfl ?_
    refine V_iconst hC dX9_strength_33 (v := 0) (by decide) ?_
    refine V_iload_n hC dX9_strength_34 0 rfl ?_
    refine V_aload_n hC dX9_strength_35 1 rfl ?_
    refine V_get hC dX9_strength_36 inAX9 (mem_at 0 0 rfl rfl) rfl 7 (by decide) q1001 rfl (v := .int (z.1 5)) rfl ?_
    refine V_iconst hC dX9_strength_39 (v := 2) (by decide) ?_
    refine V_iload_n hC dX9_strength_40 2 rfl ?_
    refine V_isub hC dX9_strength_41 ?_
    refine V_imul hC dX9_strength_42 ?_
    refine V_iadd hC dX9_strength_43 ?_
    refine V_iconst hC dX9_strength_44 (v := 2) (by decide) ?_
    refine V_aload_n hC dX9_strength_45 1 rfl ?_
    refine V_get hC dX9_strength_46 inAX9 (mem_at 0 0 rfl rfl) rfl 3 (by decide) q993 rfl (v := .int (z.1 1)) rfl ?_
    refine V_imul hC dX9_strength_49 ?_
    refine V_isub hC dX9_strength_50 ?_
    refine V_iconst hC dX9_strength_51 (v := 3) (by decide) ?_
    refine V_aload_n hC dX9_strength_52 1 rfl ?_
    refine V_get hC dX9_strength_53 inAX9 (mem_at 0 0 rfl rfl) rfl 8 (by decide) q1003 rfl (v := .int (z.1 6)) rfl ?_
    refine V_aload_n hC dX9_strength_56 1 rfl ?_
    refine V_get hC dX9_strength_57 inAX9 (mem_at 0 0 rfl rfl) rfl 0 (by decide) q986 rfl (v := .ref (q 1)) rfl ?_
    refine V_iconst hC dX9_strength_60 (v := 2) (by decide) ?_
    refine V_iald hC dX9_strength_61 (mem_at 0 1 rfl rfl) (vin (by decide)) (x := 2) (by decide) ?_
    refine V_iconst hC dX9_strength_62 (v := 4) (by decide) ?_
    refine V_idiv hC dX9_strength_63 (by decide) ?_
    refine V_isub hC dX9_strength_64 ?_
    refine V_iconst hC dX9_strength_65 (v := 2) (by decide) ?_
    refine V_isub hC dX9_strength_66 ?_
    refine V_mabs hC q1387 q878 q65 q879 (by decide) (Nat.le_of_ble_eq_true rfl) (by decide) (by decide) dX9_strength_67 ?_
    refine V_imul hC dX9_strength_70 ?_
    refine V_isub hC dX9_strength_71 ?_
    refine V_mmax hC q1343 q694 q65 q695 (by decide) (Nat.le_of_ble_eq_true rfl) (by decide) (by decide) dX9_strength_72 ?_
    exact V_iret hC hQ hr [0] (u := [mcP G q z]) (by decide) rfl (by decide) (by decide) dX9_strength_75 (⟨by unfold moStr; rw [if_neg h1]; rfl, rfl⟩)
  · refine V_iconst hC dX9_strength_17 (v := 3) (by decide) ?_
    refine V_goto hC dX9_strength_18 (tgt := 22) (by decide) ?_
    refine V_imul hC dX9_strength_22 ?_
    refine V_iadd hC dX9_strength_23 ?_
    refine V_bipush hC dX9_strength_24 (v := 10) (by decide) ?_
    refine V_imul hC dX9_strength_26 ?_
    refine V_aload_n hC dX9_strength_27 0 rfl ?_
    refine V_calli hC (V_runV hC (rest := [.int ((((z.1 4) * (2 + x)) + ((z.1 3) * 3)) * 10)]) [] (c_X9_all l G q z) [0] rfl (by decide) q1386 q1367 q1368 q57 q1369 ⟨by decide, by decide, rfl⟩ ⟨by decide, by decide⟩ (ci := 10) rfl (mem_at 0 0 rfl rfl) rfl (Nat.le_of_ble_eq_true rfl) ⟨by decide, by decide⟩ dX9_strength_28) (is := [0]) rfl [] (rs := []) rfl (by decide) (by decide) ?_
    rintro _ _ ⟨rfl, rfl⟩
    refine V_idiv hC dX9_strength_31 (moAll_ne _) ?_
    refine V_istore_n hC dX9_strength_32 (L' := [(2, .int (((((z.1 4) * (2 + x)) + ((z.1 3) * 3)) * 10) / (moAll z.2.1))), (0, .ref (q 0)), (1, .int x)]) (by decide) rfl ?_
    refine V_iconst hC dX9_strength_33 (v := 0) (by decide) ?_
    refine V_iload_n hC dX9_strength_34 0 rfl ?_
    refine V_aload_n hC dX9_strength_35 1 rfl ?_
    refine V_get hC dX9_strength_36 inAX9 (mem_at 0 0 rfl rfl) rfl 7 (by decide) q1001 rfl (v := .int (z.1 5)) rfl ?_
    refine V_iconst hC dX9_strength_39 (v := 2) (by decide) ?_
    refine V_iload_n hC dX9_strength_40 2 rfl ?_
    refine V_isub hC dX9_strength_41 ?_
    refine V_imul hC dX9_strength_42 ?_
    refine V_iadd hC dX9_strength_43 ?_
    refine V_iconst hC dX9_strength_44 (v := 2) (by decide) ?_
    refine V_aload_n hC dX9_strength_45 1 rfl ?_
    refine V_get hC dX9_strength_46 inAX9 (mem_at 0 0 rfl rfl) rfl 3 (by decide) q993 rfl (v := .int (z.1 1)) rfl ?_
    refine V_imul hC dX9_strength_49 ?_
    refine V_isub hC dX9_strength_50 ?_
    refine V_iconst hC dX9_strength_51 (v := 3) (by decide) ?_
    refine V_aload_n hC dX9_strength_52 1 rfl ?_
    refine V_get hC dX9_strength_53 inAX9 (mem_at 0 0 rfl rfl) rfl 8 (by decide) q1003 rfl (v := .int (z.1 6)) rfl ?_
    refine V_aload_n hC dX9_strength_56 1 rfl ?_
    refine V_get hC dX9_strength_57 inAX9 (mem_at 0 0 rfl rfl) rfl 0 (by decide) q986 rfl (v := .ref (q 1)) rfl ?_
    refine V_iconst hC dX9_strength_60 (v := 2) (by decide) ?_
    refine V_iald hC dX9_strength_61 (mem_at 0 1 rfl rfl) (vin (by decide)) (x := 2) (by decide) ?_
    refine V_iconst hC dX9_strength_62 (v := 4) (by decide) ?_
    refine V_idiv hC dX9_strength_63 (by decide) ?_
    refine V_isub hC dX9_strength_64 ?_
    refine V_iconst hC dX9_strength_65 (v := 2) (by decide) ?_
    refine V_isub hC dX9_strength_66 ?_
    refine V_mabs hC q1387 q878 q65 q879 (by decide) (Nat.le_of_ble_eq_true rfl) (by decide) (by decide) dX9_strength_67 ?_
    refine V_imul hC dX9_strength_70 ?_
    refine V_isub hC dX9_strength_71 ?_
    refine V_mmax hC q1343 q694 q65 q695 (by decide) (Nat.le_of_ble_eq_true rfl) (by decide) (by decide) dX9_strength_72 ?_
    exact V_iret hC hQ hr [0] (u := [mcP G q z]) (by decide) rfl (by decide) (by decide) dX9_strength_75 (⟨by unfold moStr; rw [if_pos h1]; rfl, rfl⟩)
set_option maxHeartbeats 4000000 in
set_option maxRecDepth 100000 in
/-- ClinkerWorksModel$Charge.of -/
theorem c_X9_of (l : Launch) (G : VG) (q : Nat → Nat) (z : MV) (w : Nat) (x : Int32) (hw : w ≤ 21) (hx : x = nI w) : Mi l G yX9_of cX9_of 3 .int 0 0 1 16 [.ref (q 0), .int x] [mcP G q z] (fun r u => r = moOf z w ∧ u = [mcP G q z]) := by
  refine Mi_of (by decide) (Nat.le_of_ble_eq_true rfl) (fun pP eE sS mM aA bB tT cC AA QQ hC hr hnm hQ => ?_)
  subst hx
  refine V_bipush hC dX9_of_0 (v := 16) (by decide) ?_
  refine V_newa_i hC q103 (N := 16) (by decide) (by decide) (by decide) (by decide) (by decide) dX9_of_2 (fun q1 => ?_)
  refine V_dup hC dX9_of_4 rfl ?_
  refine V_iconst hC dX9_of_5 (v := 0) (by decide) ?_
  refine V_aload_n hC dX9_of_6 0 rfl ?_
  refine V_get hC dX9_of_7 inAX9 (mem_at 0 0 rfl rfl) rfl 0 (by decide) q986 rfl (v := .ref (q 1)) rfl ?_
  refine V_iconst hC dX9_of_10 (v := 0) (by decide) ?_
  refine V_iald hC dX9_of_11 (mem_at 0 1 rfl rfl) (vin (by decide)) (x := 0) (by decide) ?_
  refine V_iast hC dX9_of_12 1 0 rfl rfl (vin (by decide)) (z := 0) (by decide) (ps' := [mcP G q z, [(q1, .inl (G.2.1 0, 16, .inl (upd (fun _ => 0) 0 (z.2.1 0))))]]) rfl ?_
  refine V_dup hC dX9_of_13 rfl ?_
  refine V_iconst hC dX9_of_14 (v := 1) (by decide) ?_
  refine V_aload_n hC dX9_of_15 0 rfl ?_
  refine V_get hC dX9_of_16 inAX9 (mem_at 0 0 rfl rfl) rfl 0 (by decide) q986 rfl (v := .ref (q 1)) rfl ?_
  refine V_iconst hC dX9_of_19 (v := 1) (by decide) ?_
  refine V_iald hC dX9_of_20 (mem_at 0 1 rfl rfl) (vin (by decide)) (x := 1) (by decide) ?_
  refine V_iast hC dX9_of_21 1 0 rfl rfl (vin (by decide)) (z := 1) (by decide) (ps' := [mcP G q z, [(q1, .inl (G.2.1 0, 16, .inl (upd (upd (fun _ => 0) 0 (z.2.1 0)) 1 (z.2.1 1))))]]) rfl ?_
  refine V_dup hC dX9_of_22 rfl ?_
  refine V_iconst hC dX9_of_23 (v := 2) (by decide) ?_
  refine V_aload_n hC dX9_of_24 0 rfl ?_
  refine V_get hC dX9_of_25 inAX9 (mem_at 0 0 rfl rfl) rfl 0 (by decide) q986 rfl (v := .ref (q 1)) rfl ?_
  refine V_iconst hC dX9_of_28 (v := 2) (by decide) ?_
  refine V_iald hC dX9_of_29 (mem_at 0 1 rfl rfl) (vin (by decide)) (x := 2) (by decide) ?_
  refine V_iast hC dX9_of_30 1 0 rfl rfl (vin (by decide)) (z := 2) (by decide) (ps' := [mcP G q z, [(q1, .inl (G.2.1 0, 16, .inl (upd (upd (upd (fun _ => 0) 0 (z.2.1 0)) 1 (z.2.1 1)) 2 (z.2.1 2))))]]) rfl ?_
  refine V_dup hC dX9_of_31 rfl ?_
  refine V_iconst hC dX9_of_32 (v := 3) (by decide) ?_
  refine V_aload_n hC dX9_of_33 0 rfl ?_
  refine V_get hC dX9_of_34 inAX9 (mem_at 0 0 rfl rfl) rfl 0 (by decide) q986 rfl (v := .ref (q 1)) rfl ?_
  refine V_iconst hC dX9_of_37 (v := 3) (by decide) ?_
  refine V_iald hC dX9_of_38 (mem_at 0 1 rfl rfl) (vin (by decide)) (x := 3) (by decide) ?_
  refine V_iast hC dX9_of_39 1 0 rfl rfl (vin (by decide)) (z := 3) (by decide) (ps' := [mcP G q z, [(q1, .inl (G.2.1 0, 16, .inl (upd (upd (upd (upd (fun _ => 0) 0 (z.2.1 0)) 1 (z.2.1 1)) 2 (z.2.1 2)) 3 (z.2.1 3))))]]) rfl ?_
  refine V_dup hC dX9_of_40 rfl ?_
  refine V_iconst hC dX9_of_41 (v := 4) (by decide) ?_
  refine V_aload_n hC dX9_of_42 0 rfl ?_
  refine V_get hC dX9_of_43 inAX9 (mem_at 0 0 rfl rfl) rfl 2 (by decide) q990 rfl (v := .int (z.1 0)) rfl ?_
  refine V_iast hC dX9_of_46 1 0 rfl rfl (vin (by decide)) (z := 4) (by decide) (ps' := [mcP G q z, [(q1, .inl (G.2.1 0, 16, .inl (upd (upd (upd (upd (upd (fun _ => 0) 0 (z.2.1 0)) 1 (z.2.1 1)) 2 (z.2.1 2)) 3 (z.2.1 3)) 4 (z.1 0))))]]) rfl ?_
  refine V_dup hC dX9_of_47 rfl ?_
  refine V_iconst hC dX9_of_48 (v := 5) (by decide) ?_
  refine V_aload_n hC dX9_of_49 0 rfl ?_
  refine V_get hC dX9_of_50 inAX9 (mem_at 0 0 rfl rfl) rfl 3 (by decide) q993 rfl (v := .int (z.1 1)) rfl ?_
  refine V_iast hC dX9_of_53 1 0 rfl rfl (vin (by decide)) (z := 5) (by decide) (ps' := [mcP G q z, [(q1, .inl (G.2.1 0, 16, .inl (upd (upd (upd (upd (upd (upd (fun _ => 0) 0 (z.2.1 0)) 1 (z.2.1 1)) 2 (z.2.1 2)) 3 (z.2.1 3)) 4 (z.1 0)) 5 (z.1 1))))]]) rfl ?_
  refine V_dup hC dX9_of_54 rfl ?_
  refine V_bipush hC dX9_of_55 (v := 6) (by decide) ?_
  refine V_aload_n hC dX9_of_57 0 rfl ?_
  refine V_get hC dX9_of_58 inAX9 (mem_at 0 0 rfl rfl) rfl 4 (by decide) q995 rfl (v := .int (z.1 2)) rfl ?_
  refine V_iast hC dX9_of_61 1 0 rfl rfl (vin (by decide)) (z := 6) (by decide) (ps' := [mcP G q z, [(q1, .inl (G.2.1 0, 16, .inl (upd (upd (upd (upd (upd (upd (upd (fun _ => 0) 0 (z.2.1 0)) 1 (z.2.1 1)) 2 (z.2.1 2)) 3 (z.2.1 3)) 4 (z.1 0)) 5 (z.1 1)) 6 (z.1 2))))]]) rfl ?_
  refine V_dup hC dX9_of_62 rfl ?_
  refine V_bipush hC dX9_of_63 (v := 7) (by decide) ?_
  refine V_aload_n hC dX9_of_65 0 rfl ?_
  refine V_get hC dX9_of_66 inAX9 (mem_at 0 0 rfl rfl) rfl 5 (by decide) q997 rfl (v := .int (z.1 3)) rfl ?_
  refine V_iast hC dX9_of_69 1 0 rfl rfl (vin (by decide)) (z := 7) (by decide) (ps' := [mcP G q z, [(q1, .inl (G.2.1 0, 16, .inl (upd (upd (upd (upd (upd (upd (upd (upd (fun _ => 0) 0 (z.2.1 0)) 1 (z.2.1 1)) 2 (z.2.1 2)) 3 (z.2.1 3)) 4 (z.1 0)) 5 (z.1 1)) 6 (z.1 2)) 7 (z.1 3))))]]) rfl ?_
  refine V_dup hC dX9_of_70 rfl ?_
  refine V_bipush hC dX9_of_71 (v := 8) (by decide) ?_
  refine V_aload_n hC dX9_of_73 0 rfl ?_
  refine V_get hC dX9_of_74 inAX9 (mem_at 0 0 rfl rfl) rfl 6 (by decide) q999 rfl (v := .int (z.1 4)) rfl ?_
  refine V_iast hC dX9_of_77 1 0 rfl rfl (vin (by decide)) (z := 8) (by decide) (ps' := [mcP G q z, [(q1, .inl (G.2.1 0, 16, .inl (upd (upd (upd (upd (upd (upd (upd (upd (upd (fun _ => 0) 0 (z.2.1 0)) 1 (z.2.1 1)) 2 (z.2.1 2)) 3 (z.2.1 3)) 4 (z.1 0)) 5 (z.1 1)) 6 (z.1 2)) 7 (z.1 3)) 8 (z.1 4))))]]) rfl ?_
  refine V_dup hC dX9_of_78 rfl ?_
  refine V_bipush hC dX9_of_79 (v := 9) (by decide) ?_
  refine V_aload_n hC dX9_of_81 0 rfl ?_
  refine V_get hC dX9_of_82 inAX9 (mem_at 0 0 rfl rfl) rfl 7 (by decide) q1001 rfl (v := .int (z.1 5)) rfl ?_
  refine V_iast hC dX9_of_85 1 0 rfl rfl (vin (by decide)) (z := 9) (by decide) (ps' := [mcP G q z, [(q1, .inl (G.2.1 0, 16, .inl (upd (upd (upd (upd (upd (upd (upd (upd (upd (upd (fun _ => 0) 0 (z.2.1 0)) 1 (z.2.1 1)) 2 (z.2.1 2)) 3 (z.2.1 3)) 4 (z.1 0)) 5 (z.1 1)) 6 (z.1 2)) 7 (z.1 3)) 8 (z.1 4)) 9 (z.1 5))))]]) rfl ?_
  refine V_dup hC dX9_of_86 rfl ?_
  refine V_bipush hC dX9_of_87 (v := 10) (by decide) ?_
  refine V_aload_n hC dX9_of_89 0 rfl ?_
  refine V_get hC dX9_of_90 inAX9 (mem_at 0 0 rfl rfl) rfl 8 (by decide) q1003 rfl (v := .int (z.1 6)) rfl ?_
  refine V_iast hC dX9_of_93 1 0 rfl rfl (vin (by decide)) (z := 10) (by decide) (ps' := [mcP G q z, [(q1, .inl (G.2.1 0, 16, .inl (upd (upd (upd (upd (upd (upd (upd (upd (upd (upd (upd (fun _ => 0) 0 (z.2.1 0)) 1 (z.2.1 1)) 2 (z.2.1 2)) 3 (z.2.1 3)) 4 (z.1 0)) 5 (z.1 1)) 6 (z.1 2)) 7 (z.1 3)) 8 (z.1 4)) 9 (z.1 5)) 10 (z.1 6))))]]) rfl ?_
  refine V_dup hC dX9_of_94 rfl ?_
  refine V_bipush hC dX9_of_95 (v := 11) (by decide) ?_
  refine V_aload_n hC dX9_of_97 0 rfl ?_
  refine V_get hC dX9_of_98 inAX9 (mem_at 0 0 rfl rfl) rfl 9 (by decide) q1005 rfl (v := .int (z.1 7)) rfl ?_
  refine V_iast hC dX9_of_101 1 0 rfl rfl (vin (by decide)) (z := 11) (by decide) (ps' := [mcP G q z, [(q1, .inl (G.2.1 0, 16, .inl (upd (upd (upd (upd (upd (upd (upd (upd (upd (upd (upd (upd (fun _ => 0) 0 (z.2.1 0)) 1 (z.2.1 1)) 2 (z.2.1 2)) 3 (z.2.1 3)) 4 (z.1 0)) 5 (z.1 1)) 6 (z.1 2)) 7 (z.1 3)) 8 (z.1 4)) 9 (z.1 5)) 10 (z.1 6)) 11 (z.1 7))))]]) rfl ?_
  refine V_dup hC dX9_of_102 rfl ?_
  refine V_bipush hC dX9_of_103 (v := 12) (by decide) ?_
  refine V_aload_n hC dX9_of_105 0 rfl ?_
  refine V_get hC dX9_of_106 inAX9 (mem_at 0 0 rfl rfl) rfl 10 (by decide) q1007 rfl (v := .int (z.1 8)) rfl ?_
  refine V_iast hC dX9_of_109 1 0 rfl rfl (vin (by decide)) (z := 12) (by decide) (ps' := [mcP G q z, [(q1, .inl (G.2.1 0, 16, .inl (upd (upd (upd (upd (upd (upd (upd (upd (upd (upd (upd (upd (upd (fun _ => 0) 0 (z.2.1 0)) 1 (z.2.1 1)) 2 (z.2.1 2)) 3 (z.2.1 3)) 4 (z.1 0)) 5 (z.1 1)) 6 (z.1 2)) 7 (z.1 3)) 8 (z.1 4)) 9 (z.1 5)) 10 (z.1 6)) 11 (z.1 7)) 12 (z.1 8))))]]) rfl ?_
  refine V_dup hC dX9_of_110 rfl ?_
  refine V_bipush hC dX9_of_111 (v := 13) (by decide) ?_
  refine V_aload_n hC dX9_of_113 0 rfl ?_
  refine V_get hC dX9_of_114 inAX9 (mem_at 0 0 rfl rfl) rfl 11 (by decide) q1009 rfl (v := .ref (q 3)) rfl ?_
  refine V_iconst hC dX9_of_117 (v := 0) (by decide) ?_
  refine V_iald hC dX9_of_118 (mem_at 0 3 rfl rfl) (vin (by decide)) (x := 0) (by decide) ?_
  refine V_iast hC dX9_of_119 1 0 rfl rfl (vin (by decide)) (z := 13) (by decide) (ps' := [mcP G q z, [(q1, .inl (G.2.1 0, 16, .inl (upd (upd (upd (upd (upd (upd (upd (upd (upd (upd (upd (upd (upd (upd (fun _ => 0) 0 (z.2.1 0)) 1 (z.2.1 1)) 2 (z.2.1 2)) 3 (z.2.1 3)) 4 (z.1 0)) 5 (z.1 1)) 6 (z.1 2)) 7 (z.1 3)) 8 (z.1 4)) 9 (z.1 5)) 10 (z.1 6)) 11 (z.1 7)) 12 (z.1 8)) 13 (z.2.2.2 0))))]]) rfl ?_
  refine V_dup hC dX9_of_120 rfl ?_
  refine V_bipush hC dX9_of_121 (v := 14) (by decide) ?_
  refine V_aload_n hC dX9_of_123 0 rfl ?_
  refine V_get hC dX9_of_124 inAX9 (mem_at 0 0 rfl rfl) rfl 11 (by decide) q1009 rfl (v := .ref (q 3)) rfl ?_
  refine V_iconst hC dX9_of_127 (v := 1) (by decide) ?_
  refine V_iald hC dX9_of_128 (mem_at 0 3 rfl rfl) (vin (by decide)) (x := 1) (by decide) ?_
  refine V_iast hC dX9_of_129 1 0 rfl rfl (vin (by decide)) (z := 14) (by decide) (ps' := [mcP G q z, [(q1, .inl (G.2.1 0, 16, .inl (upd (upd (upd (upd (upd (upd (upd (upd (upd (upd (upd (upd (upd (upd (upd (fun _ => 0) 0 (z.2.1 0)) 1 (z.2.1 1)) 2 (z.2.1 2)) 3 (z.2.1 3)) 4 (z.1 0)) 5 (z.1 1)) 6 (z.1 2)) 7 (z.1 3)) 8 (z.1 4)) 9 (z.1 5)) 10 (z.1 6)) 11 (z.1 7)) 12 (z.1 8)) 13 (z.2.2.2 0)) 14 (z.2.2.2 1))))]]) rfl ?_
  refine V_dup hC dX9_of_130 rfl ?_
  refine V_bipush hC dX9_of_131 (v := 15) (by decide) ?_
  refine V_aload_n hC dX9_of_133 0 rfl ?_
  refine V_get hC dX9_of_134 inAX9 (mem_at 0 0 rfl rfl) rfl 11 (by decide) q1009 rfl (v := .ref (q 3)) rfl ?_
  refine V_iconst hC dX9_of_137 (v := 2) (by decide) ?_
  refine V_iald hC dX9_of_138 (mem_at 0 3 rfl rfl) (vin (by decide)) (x := 2) (by decide) ?_
  refine V_iast hC dX9_of_139 1 0 rfl rfl (vin (by decide)) (z := 15) (by decide) (ps' := [mcP G q z, [(q1, .inl (G.2.1 0, 16, .inl (upd (upd (upd (upd (upd (upd (upd (upd (upd (upd (upd (upd (upd (upd (upd (upd (fun _ => 0) 0 (z.2.1 0)) 1 (z.2.1 1)) 2 (z.2.1 2)) 3 (z.2.1 3)) 4 (z.1 0)) 5 (z.1 1)) 6 (z.1 2)) 7 (z.1 3)) 8 (z.1 4)) 9 (z.1 5)) 10 (z.1 6)) 11 (z.1 7)) 12 (z.1 8)) 13 (z.2.2.2 0)) 14 (z.2.2.2 1)) 15 (z.2.2.2 2))))]]) rfl ?_
  refine V_astore_n hC dX9_of_140 (L' := [(2, .ref q1), (0, .ref (q 0)), (1, .int (nI w))]) (by decide) rfl ?_
  rcases (show w = 0 ∨ w = 1 ∨ w = 2 ∨ w = 3 ∨ w = 4 ∨ w = 5 ∨ w = 6 ∨ w = 7 ∨ w = 8 ∨ w = 9 ∨ w = 10 ∨ w = 11 ∨ w = 12 ∨ w = 13 ∨ w = 14 ∨ w = 15 ∨ w = 16 ∨ w = 17 ∨ w = 18 ∨ w = 19 ∨ w = 20 ∨ w = 21 by omega) with rfl | rfl | rfl | rfl | rfl | rfl | rfl | rfl | rfl | rfl | rfl | rfl | rfl | rfl | rfl | rfl | rfl | rfl | rfl | rfl | rfl | rfl
  · refine V_iload_n hC dX9_of_141 2 rfl ?_
    refine V_bipush hC dX9_of_142 (v := 16) (by decide) ?_
    refine V_icmp_geF hC dX9_of_144 (tgt := 153) (by decide) (by decide) ?_
    refine V_aload_n hC dX9_of_147 0 rfl ?_
    refine V_iload_n hC dX9_of_148 2 rfl ?_
    refine V_iald hC dX9_of_149 (mem_at 1 0 rfl rfl) (vin (by decide)) (x := 0) (by decide) ?_
    refine V_goto hC dX9_of_150 (tgt := 162) (by decide) ?_
    exact V_iret hC hQ hr [0] (u := [mcP G q z]) (by decide) rfl (by decide) (by decide) dX9_of_162 (⟨rfl, rfl⟩)
  · refine V_iload_n hC dX9_of_141 2 rfl ?_
    refine V_bipush hC dX9_of_142 (v := 16) (by decide) ?_
    refine V_icmp_geF hC dX9_of_144 (tgt := 153) (by decide) (by decide) ?_
    refine V_aload_n hC dX9_of_147 0 rfl ?_
    refine V_iload_n hC dX9_of_148 2 rfl ?_
    refine V_iald hC dX9_of_149 (mem_at 1 0 rfl rfl) (vin (by decide)) (x := 1) (by decide) ?_
    refine V_goto hC dX9_of_150 (tgt := 162) (by decide) ?_
    exact V_iret hC hQ hr [0] (u := [mcP G q z]) (by decide) rfl (by decide) (by decide) dX9_of_162 (⟨rfl, rfl⟩)
  · refine V_iload_n hC dX9_of_141 2 rfl ?_
    refine V_bipush hC dX9_of_142 (v := 16) (by decide) ?_
    refine V_icmp_geF hC dX9_of_144 (tgt := 153) (by decide) (by decide) ?_
    refine V_aload_n hC dX9_of_147 0 rfl ?_
    refine V_iload_n hC dX9_of_148 2 rfl ?_
    refine V_iald hC dX9_of_149 (mem_at 1 0 rfl rfl) (vin (by decide)) (x := 2) (by decide) ?_
    refine V_goto hC dX9_of_150 (tgt := 162) (by decide) ?_
    exact V_iret hC hQ hr [0] (u := [mcP G q z]) (by decide) rfl (by decide) (by decide) dX9_of_162 (⟨rfl, rfl⟩)
  · refine V_iload_n hC dX9_of_141 2 rfl ?_
    refine V_bipush hC dX9_of_142 (v := 16) (by decide) ?_
    refine V_icmp_geF hC dX9_of_144 (tgt := 153) (by decide) (by decide) ?_
    refine V_aload_n hC dX9_of_147 0 rfl ?_
    refine V_iload_n hC dX9_of_148 2 rfl ?_
    refine V_iald hC dX9_of_149 (mem_at 1 0 rfl rfl) (vin (by decide)) (x := 3) (by decide) ?_
    refine V_goto hC dX9_of_150 (tgt := 162) (by decide) ?_
    exact V_iret hC hQ hr [0] (u := [mcP G q z]) (by decide) rfl (by decide) (by decide) dX9_of_162 (⟨rfl, rfl⟩)
  · refine V_iload_n hC dX9_of_141 2 rfl ?_
    refine V_bipush hC dX9_of_142 (v := 16) (by decide) ?_
    refine V_icmp_geF hC dX9_of_144 (tgt := 153) (by decide) (by decide) ?_
    refine V_aload_n hC dX9_of_147 0 rfl ?_
    refine V_iload_n hC dX9_of_148 2 rfl ?_
    refine V_iald hC dX9_of_149 (mem_at 1 0 rfl rfl) (vin (by decide)) (x := 4) (by decide) ?_
    refine V_goto hC dX9_of_150 (tgt := 162) (by decide) ?_
    exact V_iret hC hQ hr [0] (u := [mcP G q z]) (by decide) rfl (by decide) (by decide) dX9_of_162 (⟨rfl, rfl⟩)
  · refine V_iload_n hC dX9_of_141 2 rfl ?_
    refine V_bipush hC dX9_of_142 (v := 16) (by decide) ?_
    refine V_icmp_geF hC dX9_of_144 (tgt := 153) (by decide) (by decide) ?_
    refine V_aload_n hC dX9_of_147 0 rfl ?_
    refine V_iload_n hC dX9_of_148 2 rfl ?_
    refine V_iald hC dX9_of_149 (mem_at 1 0 rfl rfl) (vin (by decide)) (x := 5) (by decide) ?_
    refine V_goto hC dX9_of_150 (tgt := 162) (by decide) ?_
    exact V_iret hC hQ hr [0] (u := [mcP G q z]) (by decide) rfl (by decide) (by decide) dX9_of_162 (⟨rfl, rfl⟩)
  · refine V_iload_n hC dX9_of_141 2 rfl ?_
    refine V_bipush hC dX9_of_142 (v := 16) (by decide) ?_
    refine V_icmp_geF hC dX9_of_144 (tgt := 153) (by decide) (by decide) ?_
    refine V_aload_n hC dX9_of_147 0 rfl ?_
    refine V_iload_n hC dX9_of_148 2 rfl ?_
    refine V_iald hC dX9_of_149 (mem_at 1 0 rfl rfl) (vin (by decide)) (x := 6) (by decide) ?_
    refine V_goto hC dX9_of_150 (tgt := 162) (by decide) ?_
    exact V_iret hC hQ hr [0] (u := [mcP G q z]) (by decide) rfl (by decide) (by decide) dX9_of_162 (⟨rfl, rfl⟩)
  · refine V_iload_n hC dX9_of_141 2 rfl ?_
    refine V_bipush hC dX9_of_142 (v := 16) (by decide) ?_
    refine V_icmp_geF hC dX9_of_144 (tgt := 153) (by decide) (by decide) ?_
    refine V_aload_n hC dX9_of_147 0 rfl ?_
    refine V_iload_n hC dX9_of_148 2 rfl ?_
    refine V_iald hC dX9_of_149 (mem_at 1 0 rfl rfl) (vin (by decide)) (x := 7) (by decide) ?_
    refine V_goto hC dX9_of_150 (tgt := 162) (by decide) ?_
    exact V_iret hC hQ hr [0] (u := [mcP G q z]) (by decide) rfl (by decide) (by decide) dX9_of_162 (⟨rfl, rfl⟩)
  · refine V_iload_n hC dX9_of_141 2 rfl ?_
    refine V_bipush hC dX9_of_142 (v := 16) (by decide) ?_
    refine V_icmp_geF hC dX9_of_144 (tgt := 153) (by decide) (by decide) ?_
    refine V_aload_n hC dX9_of_147 0 rfl ?_
    refine V_iload_n hC dX9_of_148 2 rfl ?_
    refine V_iald hC dX9_of_149 (mem_at 1 0 rfl rfl) (vin (by decide)) (x := 8) (by decide) ?_
    refine V_goto hC dX9_of_150 (tgt := 162) (by decide) ?_
    exact V_iret hC hQ hr [0] (u := [mcP G q z]) (by decide) rfl (by decide) (by decide) dX9_of_162 (⟨rfl, rfl⟩)
  · refine V_iload_n hC dX9_of_141 2 rfl ?_
    refine V_bipush hC dX9_of_142 (v := 16) (by decide) ?_
    refine V_icmp_geF hC dX9_of_144 (tgt := 153) (by decide) (by decide) ?_
    refine V_aload_n hC dX9_of_147 0 rfl ?_
    refine V_iload_n hC dX9_of_148 2 rfl ?_
    refine V_iald hC dX9_of_149 (mem_at 1 0 rfl rfl) (vin (by decide)) (x := 9) (by decide) ?_
    refine V_goto hC dX9_of_150 (tgt := 162) (by decide) ?_
    exact V_iret hC hQ hr [0] (u := [mcP G q z]) (by decide) rfl (by decide) (by decide) dX9_of_162 (⟨rfl, rfl⟩)
  · refine V_iload_n hC dX9_of_141 2 rfl ?_
    refine V_bipush hC dX9_of_142 (v := 16) (by decide) ?_
    refine V_icmp_geF hC dX9_of_144 (tgt := 153) (by decide) (by decide) ?_
    refine V_aload_n hC dX9_of_147 0 rfl ?_
    refine V_iload_n hC dX9_of_148 2 rfl ?_
    refine V_iald hC dX9_of_149 (mem_at 1 0 rfl rfl) (vin (by decide)) (x := 10) (by decide) ?_
    refine V_goto hC dX9_of_150 (tgt := 162) (by decide) ?_
    exact V_iret hC hQ hr [0] (u := [mcP G q z]) (by decide) rfl (by decide) (by decide) dX9_of_162 (⟨rfl, rfl⟩)
  · refine V_iload_n hC dX9_of_141 2 rfl ?_
    refine V_bipush hC dX9_of_142 (v := 16) (by decide) ?_
    refine V_icmp_geF hC dX9_of_144 (tgt := 153) (by decide) (by decide) ?_
    refine V_aload_n hC dX9_of_147 0 rfl ?_
    refine V_iload_n hC dX9_of_148 2 rfl ?_
    refine V_iald hC dX9_of_149 (mem_at 1 0 rfl rfl) (vin (by decide)) (x := 11) (by decide) ?_
    refine V_goto hC dX9_of_150 (tgt := 162) (by decide) ?_
    exact V_iret hC hQ hr [0] (u := [mcP G q z]) (by decide) rfl (by decide) (by decide) dX9_of_162 (⟨rfl, rfl⟩)
  · refine V_iload_n hC dX9_of_141 2 rfl ?_
    refine V_bipush hC dX9_of_142 (v := 16) (by decide) ?_
    refine V_icmp_geF hC dX9_of_144 (tgt := 153) (by decide) (by decide) ?_
    refine V_aload_n hC dX9_of_147 0 rfl ?_
    refine V_iload_n hC dX9_of_148 2 rfl ?_
    refine V_iald hC dX9_of_149 (mem_at 1 0 rfl rfl) (vin (by decide)) (x := 12) (by decide) ?_
    refine V_goto hC dX9_of_150 (tgt := 162) (by decide) ?_
    exact V_iret hC hQ hr [0] (u := [mcP G q z]) (by decide) rfl (by decide) (by decide) dX9_of_162 (⟨rfl, rfl⟩)
  · refine V_iload_n hC dX9_of_141 2 rfl ?_
    refine V_bipush hC dX9_of_142 (v := 16) (by decide) ?_
    refine V_icmp_geF hC dX9_of_144 (tgt := 153) (by decide) (by decide) ?_
    refine V_aload_n hC dX9_of_147 0 rfl ?_
    refine V_iload_n hC dX9_of_148 2 rfl ?_
    refine V_iald hC dX9_of_149 (mem_at 1 0 rfl rfl) (vin (by decide)) (x := 13) (by decide) ?_
    refine V_goto hC dX9_of_150 (tgt := 162) (by decide) ?_
    exact V_iret hC hQ hr [0] (u := [mcP G q z]) (by decide) rfl (by decide) (by decide) dX9_of_162 (⟨rfl, rfl⟩)
  · refine V_iload_n hC dX9_of_141 2 rfl ?_
    refine V_bipush hC dX9_of_142 (v := 16) (by decide) ?_
    refine V_icmp_geF hC dX9_of_144 (tgt := 153) (by decide) (by decide) ?_
    refine V_aload_n hC dX9_of_147 0 rfl ?_
    refine V_iload_n hC dX9_of_148 2 rfl ?_
    refine V_iald hC dX9_of_149 (mem_at 1 0 rfl rfl) (vin (by decide)) (x := 14) (by decide) ?_
    refine V_goto hC dX9_of_150 (tgt := 162) (by decide) ?_
    exact V_iret hC hQ hr [0] (u := [mcP G q z]) (by decide) rfl (by decide) (by decide) dX9_of_162 (⟨rfl, rfl⟩)
  · refine V_iload_n hC dX9_of_141 2 rfl ?_
    refine V_bipush hC dX9_of_142 (v := 16) (by decide) ?_
    refine V_icmp_geF hC dX9_of_144 (tgt := 153) (by decide) (by decide) ?_
    refine V_aload_n hC dX9_of_147 0 rfl ?_
    refine V_iload_n hC dX9_of_148 2 rfl ?_
    refine V_iald hC dX9_of_149 (mem_at 1 0 rfl rfl) (vin (by decide)) (x := 15) (by decide) ?_
    refine V_goto hC dX9_of_150 (tgt := 162) (by decide) ?_
    exact V_iret hC hQ hr [0] (u := [mcP G q z]) (by decide) rfl (by decide) (by decide) dX9_of_162 (⟨rfl, rfl⟩)
  · refine V_iload_n hC dX9_of_141 2 rfl ?_
    refine V_bipush hC dX9_of_142 (v := 16) (by decide) ?_
    refine V_icmp_geT hC dX9_of_144 (tgt := 153) (by decide) (by decide) ?_
    refine V_aload_n hC dX9_of_153 1 rfl ?_
    refine V_get hC dX9_of_154 inAX9 (mem_at 0 0 rfl rfl) rfl 1 (by decide) q988 rfl (v := .ref (q 2)) rfl ?_
    refine V_iload_n hC dX9_of_157 2 rfl ?_
    refine V_bipush hC dX9_of_158 (v := 16) (by decide) ?_
    refine V_isub hC dX9_of_160 ?_
    refine V_eqi (y := 0) (by decide) ?_
    refine V_iald hC dX9_of_161 (mem_at 0 2 rfl rfl) (vin (by decide)) (x := 0) (by decide) ?_
    exact V_iret hC hQ hr [0] (u := [mcP G q z]) (by decide) rfl (by decide) (by decide) dX9_of_162 (⟨rfl, rfl⟩)
  · refine V_iload_n hC dX9_of_141 2 rfl ?_
    refine V_bipush hC dX9_of_142 (v := 16) (by decide) ?_
    refine V_icmp_geT hC dX9_of_144 (tgt := 153) (by decide) (by decide) ?_
    refine V_aload_n hC dX9_of_153 1 rfl ?_
    refine V_get hC dX9_of_154 inAX9 (mem_at 0 0 rfl rfl) rfl 1 (by decide) q988 rfl (v := .ref (q 2)) rfl ?_
    refine V_iload_n hC dX9_of_157 2 rfl ?_
    refine V_bipush hC dX9_of_158 (v := 16) (by decide) ?_
    refine V_isub hC dX9_of_160 ?_
    refine V_eqi (y := 1) (by decide) ?_
    refine V_iald hC dX9_of_161 (mem_at 0 2 rfl rfl) (vin (by decide)) (x := 1) (by decide) ?_
    exact V_iret hC hQ hr [0] (u := [mcP G q z]) (by decide) rfl (by decide) (by decide) dX9_of_162 (⟨rfl, rfl⟩)
  · refine V_iload_n hC dX9_of_141 2 rfl ?_
    refine V_bipush hC dX9_of_142 (v := 16) (by decide) ?_
    refine V_icmp_geT hC dX9_of_144 (tgt := 153) (by decide) (by decide) ?_
    refine V_aload_n hC dX9_of_153 1 rfl ?_
    refine V_get hC dX9_of_154 inAX9 (mem_at 0 0 rfl rfl) rfl 1 (by decide) q988 rfl (v := .ref (q 2)) rfl ?_
    refine V_iload_n hC dX9_of_157 2 rfl ?_
    refine V_bipush hC dX9_of_158 (v := 16) (by decide) ?_
    refine V_isub hC dX9_of_160 ?_
    refine V_eqi (y := 2) (by decide) ?_
    refine V_iald hC dX9_of_161 (mem_at 0 2 rfl rfl) (vin (by decide)) (x := 2) (by decide) ?_
    exact V_iret hC hQ hr [0] (u := [mcP G q z]) (by decide) rfl (by decide) (by decide) dX9_of_162 (⟨rfl, rfl⟩)
  · refine V_iload_n hC dX9_of_141 2 rfl ?_
    refine V_bipush hC dX9_of_142 (v := 16) (by decide) ?_
    refine V_icmp_geT hC dX9_of_144 (tgt := 153) (by decide) (by decide) ?_
    refine V_aload_n hC dX9_of_153 1 rfl ?_
    refine V_get hC dX9_of_154 inAX9 (mem_at 0 0 rfl rfl) rfl 1 (by decide) q988 rfl (v := .ref (q 2)) rfl ?_
    refine V_iload_n hC dX9_of_157 2 rfl ?_
    refine V_bipush hC dX9_of_158 (v := 16) (by decide) ?_
    refine V_isub hC dX9_of_160 ?_
    refine V_eqi (y := 3) (by decide) ?_
    refine V_iald hC dX9_of_161 (mem_at 0 2 rfl rfl) (vin (by decide)) (x := 3) (by decide) ?_
    exact V_iret hC hQ hr [0] (u := [mcP G q z]) (by decide) rfl (by decide) (by decide) dX9_of_162 (⟨rfl, rfl⟩)
  · refine V_iload_n hC dX9_of_141 2 rfl ?_
    refine V_bipush hC dX9_of_142 (v := 16) (by decide) ?_
    refine V_icmp_geT hC dX9_of_144 (tgt := 153) (by decide) (by decide) ?_
    refine V_aload_n hC dX9_of_153 1 rfl ?_
    refine V_get hC dX9_of_154 inAX9 (mem_at 0 0 rfl rfl) rfl 1 (by decide) q988 rfl (v := .ref (q 2)) rfl ?_
    refine V_iload_n hC dX9_of_157 2 rfl ?_
    refine V_bipush hC dX9_of_158 (v := 16) (by decide) ?_
    refine V_isub hC dX9_of_160 ?_
    refine V_eqi (y := 4) (by decide) ?_
    refine V_iald hC dX9_of_161 (mem_at 0 2 rfl rfl) (vin (by decide)) (x := 4) (by decide) ?_
    exact V_iret hC hQ hr [0] (u := [mcP G q z]) (by decide) rfl (by decide) (by decide) dX9_of_162 (⟨rfl, rfl⟩)
  · refine V_iload_n hC dX9_of_141 2 rfl ?_
    refine V_bipush hC dX9_of_142 (v := 16) (by decide) ?_
    refine V_icmp_geT hC dX9_of_144 (tgt := 153) (by decide) (by decide) ?_
    refine V_aload_n hC dX9_of_153 1 rfl ?_
    refine V_get hC dX9_of_154 inAX9 (mem_at 0 0 rfl rfl) rfl 1 (by decide) q988 rfl (v := .ref (q 2)) rfl ?_
    refine V_iload_n hC dX9_of_157 2 rfl ?_
    refine V_bipush hC dX9_of_158 (v := 16) (by decide) ?_
    refine V_isub hC dX9_of_160 ?_
    refine V_eqi (y := 5) (by decide) ?_
    refine V_iald hC dX9_of_161 (mem_at 0 2 rfl rfl) (vin (by decide)) (x := 5) (by decide) ?_
    exact V_iret hC hQ hr [0] (u := [mcP G q z]) (by decide) rfl (by decide) (by decide) dX9_of_162 (⟨rfl, rfl⟩)
set_option maxHeartbeats 4000000 in
set_option maxRecDepth 100000 in
/-- ClinkerWorksModel$Charge.<init> -/
theorem c_X9_init (l : Launch) (G : VG) (a : Nat) : Mv l G yX9_init cX9_init 1 1 12 3 13 [.ref a] [[(a, .inr (10, [.null, .null, .int 0, .int 0, .int 0, .int 0, .int 0, .int 0, .int 0, .int 0, .int 0, .null]))]] (fun u => ∃ o p fo : Nat, u = [mcP G (qf a o p fo) mo0]) := by
  refine Mv_of (by decide) (Nat.le_of_ble_eq_true rfl) (fun pP eE sS mM aA bB tT cC AA QQ hC hr hnm hQ => ?_)
  refine V_aload_n hC dX9_init_0 0 rfl ?_
  refine V_objInit hC q985 q76 q77 dX9_init_1 (by decide) (Nat.le_of_ble_eq_true rfl) ?_
  refine V_aload_n hC dX9_init_4 0 rfl ?_
  refine V_iconst hC dX9_init_5 (v := 4) (by decide) ?_
  refine V_newa_i hC q103 (N := 4) (by decide) (by decide) (by decide) (by decide) (by decide) dX9_init_6 (fun q1 => ?_)
  refine V_putF hC dX9_init_8 inAX9 tyX9 tyX9_ok nmX9 0 0 rfl rfl rfl 0 (by decide) q986 rfl rfl hnm rfl (rfl) (rfl) (Nat.le_of_ble_eq_true rfl) (ps' := [[(a, .inr (10, [.ref q1, .null, .int 0, .int 0, .int 0, .int 0, .int 0, .int 0, .int 0, .int 0, .int 0, .null]))], [(q1, .inl (G.2.1 0, 4, .inl (fun _ => 0)))]]) rfl ?_
  refine V_aload_n hC dX9_init_11 0 rfl ?_
  refine V_bipush hC dX9_init_12 (v := 6) (by decide) ?_
  refine V_newa_i hC q103 (N := 6) (by decide) (by decide) (by decide) (by decide) (by decide) dX9_init_14 (fun q2 => ?_)
  refine V_putF hC dX9_init_16 inAX9 tyX9 tyX9_ok nmX9 0 0 rfl rfl rfl 1 (by decide) q988 rfl rfl hnm rfl (rfl) (rfl) (Nat.le_of_ble_eq_true rfl) (ps' := [[(a, .inr (10, [.ref q1, .ref q2, .int 0, .int 0, .int 0, .int 0, .int 0, .int 0, .int 0, .int 0, .int 0, .null]))], [(q1, .inl (G.2.1 0, 4, .inl (fun _ => 0)))], [(q2, .inl (G.2.1 0, 6, .inl (fun _ => 0)))]]) rfl ?_
  refine V_aload_n hC dX9_init_19 0 rfl ?_
  refine V_iconst hC dX9_init_20 (v := (-1)) (by decide) ?_
  refine V_put hC dX9_init_21 inAX9 tyX9 tyX9_ok nmX9 0 0 rfl rfl rfl 7 (by decide) q1001 rfl rfl (rfl) (rfl) (Nat.le_of_ble_eq_true rfl) (ps' := [[(a, .inr (10, [.ref q1, .ref q2, .int 0, .int 0, .int 0, .int 0, .int 0, .int (-1), .int 0, .int 0, .int 0, .null]))], [(q1, .inl (G.2.1 0, 4, .inl (fun _ => 0)))], [(q2, .inl (G.2.1 0, 6, .inl (fun _ => 0)))]]) rfl ?_
  refine V_aload_n hC dX9_init_24 0 rfl ?_
  refine V_iconst hC dX9_init_25 (v := (-1)) (by decide) ?_
  refine V_put hC dX9_init_26 inAX9 tyX9 tyX9_ok nmX9 0 0 rfl rfl rfl 8 (by decide) q1003 rfl rfl (rfl) (rfl) (Nat.le_of_ble_eq_true rfl) (ps' := [[(a, .inr (10, [.ref q1, .ref q2, .int 0, .int 0, .int 0, .int 0, .int 0, .int (-1), .int (-1), .int 0, .int 0, .null]))], [(q1, .inl (G.2.1 0, 4, .inl (fun _ => 0)))], [(q2, .inl (G.2.1 0, 6, .inl (fun _ => 0)))]]) rfl ?_
  refine V_aload_n hC dX9_init_29 0 rfl ?_
  refine V_iconst hC dX9_init_30 (v := (-1)) (by decide) ?_
  refine V_put hC dX9_init_31 inAX9 tyX9 tyX9_ok nmX9 0 0 rfl rfl rfl 9 (by decide) q1005 rfl rfl (rfl) (rfl) (Nat.le_of_ble_eq_true rfl) (ps' := [[(a, .inr (10, [.ref q1, .ref q2, .int 0, .int 0, .int 0, .int 0, .int 0, .int (-1), .int (-1), .int (-1), .int 0, .null]))], [(q1, .inl (G.2.1 0, 4, .inl (fun _ => 0)))], [(q2, .inl (G.2.1 0, 6, .inl (fun _ => 0)))]]) rfl ?_
  refine V_aload_n hC dX9_init_34 0 rfl ?_
  refine V_iconst hC dX9_init_35 (v := 3) (by decide) ?_
  refine V_newa_i hC q103 (N := 3) (by decide) (by decide) (by decide) (by decide) (by decide) dX9_init_36 (fun q3 => ?_)
  refine V_dup hC dX9_init_38 rfl ?_
  refine V_iconst hC dX9_init_39 (v := 0) (by decide) ?_
  refine V_iconst hC dX9_init_40 (v := (-1)) (by decide) ?_
  refine V_iast hC dX9_init_41 3 0 rfl rfl (vin (by decide)) (z := 0) (by decide) (ps' := [[(a, .inr (10, [.ref q1, .ref q2, .int 0, .int 0, .int 0, .int 0, .int 0, .int (-1), .int (-1), .int (-1), .int 0, .null]))], [(q1, .inl (G.2.1 0, 4, .inl (fun _ => 0)))], [(q2, .inl (G.2.1 0, 6, .inl (fun _ => 0)))], [(q3, .inl (G.2.1 0, 3, .inl (upd (fun _ => 0) 0 (-1))))]]) rfl ?_
  refine V_dup hC dX9_init_42 rfl ?_
  refine V_iconst hC dX9_init_43 (v := 1) (by decide) ?_
  refine V_iconst hC dX9_init_44 (v := (-1)) (by decide) ?_
  refine V_iast hC dX9_init_45 3 0 rfl rfl (vin (by decide)) (z := 1) (by decide) (ps' := [[(a, .inr (10, [.ref q1, .ref q2, .int 0, .int 0, .int 0, .int 0, .int 0, .int (-1), .int (-1), .int (-1), .int 0, .null]))], [(q1, .inl (G.2.1 0, 4, .inl (fun _ => 0)))], [(q2, .inl (G.2.1 0, 6, .inl (fun _ => 0)))], [(q3, .inl (G.2.1 0, 3, .inl (upd (upd (fun _ => 0) 0 (-1)) 1 (-1))))]]) rfl ?_
  refine V_dup hC dX9_init_46 rfl ?_
  refine V_iconst hC dX9_init_47 (v := 2) (by decide) ?_
  refine V_iconst hC dX9_init_48 (v := (-1)) (by decide) ?_
  refine V_iast hC dX9_init_49 3 0 rfl rfl (vin (by decide)) (z := 2) (by decide) (ps' := [[(a, .inr (10, [.ref q1, .ref q2, .int 0, .int 0, .int 0, .int 0, .int 0, .int (-1), .int (-1), .int (-1), .int 0, .null]))], [(q1, .inl (G.2.1 0, 4, .inl (fun _ => 0)))], [(q2, .inl (G.2.1 0, 6, .inl (fun _ => 0)))], [(q3, .inl (G.2.1 0, 3, .inl (upd (upd (upd (fun _ => 0) 0 (-1)) 1 (-1)) 2 (-1))))]]) rfl ?_
  refine V_putF hC dX9_init_50 inAX9 tyX9 tyX9_ok nmX9 0 0 rfl rfl rfl 11 (by decide) q1009 rfl rfl hnm rfl (rfl) (rfl) (Nat.le_of_ble_eq_true rfl) (ps' := [[(a, .inr (10, [.ref q1, .ref q2, .int 0, .int 0, .int 0, .int 0, .int 0, .int (-1), .int (-1), .int (-1), .int 0, .ref q3]))], [(q1, .inl (G.2.1 0, 4, .inl (fun _ => 0)))], [(q2, .inl (G.2.1 0, 6, .inl (fun _ => 0)))], [(q3, .inl (G.2.1 0, 3, .inl (upd (upd (upd (fun _ => 0) 0 (-1)) 1 (-1)) 2 (-1))))]]) rfl ?_
  refine V_flat (ps' := [mcP G (qf a q1 q2 q3) mo0]) rfl ?_
  exact V_vret hC hQ hr [0] (u := [mcP G (qf a q1 q2 q3) mo0]) (by decide) rfl (by decide) (by decide) dX9_init_53 (⟨_, _, _, rfl⟩)
