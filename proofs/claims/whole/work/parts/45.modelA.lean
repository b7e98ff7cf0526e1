/-! ===== the model: the small things ===== -/
def moIn (x a b : Int32) : Int32 := if x < a then 0 else if b < x then 0 else 1
def moLow (a b : Int32) : Int32 := if a < 0 then -((b - 1 - a) / b) else a / b
def moPart (a b : Int32) : Int32 := if b = 0 then 999 else a / b
def moSat (f : Nat → Int32) : Int32 := moPart (100 * f 0) (3 * f 1 + 2 * f 2 + f 3)
def moSil (f : Nat → Int32) : Int32 := moPart (10 * f 1) (f 2 + f 3)
def moAlu (f : Nat → Int32) : Int32 := moPart (10 * f 2) (f 3)
def moRight (f : Nat → Int32) : Int32 := if moIn (moSat f) 80 110 = 0 then 0 else if moIn (moSil f) 12 40 = 0 then 0 else if moIn (moAlu f) 5 40 = 0 then 0 else 1
def moMod (f : Nat → Int32) (x : Int32) : Int32 := if x = 0 then moSat f else if x = 1 then moSil f else if x = 2 then moAlu f else moRight f
def moAll (f : Nat → Int32) : Int32 := mx 1 (f 0 + f 1 + f 2 + f 3)
set_option maxHeartbeats 4000000 in
set_option maxRecDepth 100000 in
/-- ClinkerWorksModel.in -/
theorem c_X11_in (l : Launch) (G : VG) (x a b : Int32) : Mi l G yX11_in cX11_in 3 .boolean 0 0 0 0 [.int x, .int a, .int b] [] (fun r u => r = moIn x a b ∧ u = []) := by
  refine Mi_of (by decide) (Nat.le_of_ble_eq_true rfl) (fun pP eE sS mM aA bB tT cC AA QQ hC hr hnm hQ => ?_)
  refine V_iload_n hC dX11_in_0 0 rfl ?_
  refine V_iload_n hC dX11_in_1 1 rfl ?_
  refine V_icmp_lt hC dX11_in_2 (tgt := 14) (by decide) (fun h1 => ?_) (fun h1 => ?_)
  · refine V_iconst hC dX11_in_14 (v := 0) (by decide) ?_
    exact V_zret hC hQ hr (by decide) [] (u := []) (by decide) rfl (by decide) (by decide) dX11_in_15 (⟨by unfold moIn; rw [if_pos h1], rfl⟩)
  · refine V_iload_n hC dX11_in_5 0 rfl ?_
    refine V_iload_n hC dX11_in_6 2 rfl ?_
    refine V_icmp_gt hC dX11_in_7 (tgt := 14) (by decide) (fun h2 => ?_) (fun h2 => ?_)
    · refine V_iconst hC dX11_in_14 (v := 0) (by decide) ?_
      exact V_zret hC hQ hr (by decide) [] (u := []) (by decide) rfl (by decide) (by decide) dX11_in_15 (⟨by unfold moIn; rw [if_neg h1, if_pos h2], rfl⟩)
    · refine V_iconst hC dX11_in_10 (v := 1) (by decide) ?_
      refine V_goto hC dX11_in_11 (tgt := 15) (by decide) ?_
      exact V_zret hC hQ hr (by decide) [] (u := []) (by decide) rfl (by decide) (by decide) dX11_in_15 (⟨by unfold moIn; rw [if_neg h1, if_neg h2], rfl⟩)
set_option maxHeartbeats 4000000 in
set_option maxRecDepth 100000 in
/-- ClinkerWorksModel.lower -/
theorem c_X11_lower (l : Launch) (G : VG) (a b : Int32) (hb : ¬ b = 0) : Mi l G yX11_lower cX11_lower 2 .int 0 0 0 0 [.int a, .int b] [] (fun r u => r = moLow a b ∧ u = []) := by
  refine Mi_of (by decide) (Nat.le_of_ble_eq_true rfl) (fun pP eE sS mM aA bB tT cC AA QQ hC hr hnm hQ => ?_)
  refine V_iload_n hC dX11_lower_0 0 rfl ?_
  refine V_if_lt hC dX11_lower_1 (tgt := 10) (by decide) (fun h1 => ?_) (fun h1 => ?_)
  · refine V_iload_n hC dX11_lower_10 1 rfl ?_
    refine V_iconst hC dX11_lower_11 (v := 1) (by decide) ?_
    refine V_isub hC dX11_lower_12 ?_
    refine V_iload_n hC dX11_lower_13 0 rfl ?_
    refine V_isub hC dX11_lower_14 ?_
    refine V_iload_n hC dX11_lower_15 1 rfl ?_
    refine V_idiv hC dX11_lower_16 (hb) ?_
    refine V_ineg hC dX11_lower_17 ?_
    exact V_iret hC hQ hr [] (u := []) (by decide) rfl (by decide) (by decide) dX11_lower_18 (⟨by unfold moLow; rw [if_pos h1], rfl⟩)
  · refine V_iload_n hC dX11_lower_4 0 rfl ?_
    refine V_iload_n hC dX11_lower_5 1 rfl ?_
    refine V_idiv hC dX11_lower_6 (hb) ?_
    refine V_goto hC dX11_lower_7 (tgt := 18) (by decide) ?_
    exact V_iret hC hQ hr [] (u := []) (by decide) rfl (by decide) (by decide) dX11_lower_18 (⟨by unfold moLow; rw [if_neg h1], rfl⟩)
set_option maxHeartbeats 4000000 in
set_option maxRecDepth 100000 in
/-- ClinkerWorksModel.part -/
theorem c_X11_part (l : Launch) (G : VG) (a b : Int32) : Mi l G yX11_part cX11_part 2 .int 0 0 0 0 [.int a, .int b] [] (fun r u => r = moPart a b ∧ u = []) := by
  refine Mi_of (by decide) (Nat.le_of_ble_eq_true rfl) (fun pP eE sS mM aA bB tT cC AA QQ hC hr hnm hQ => ?_)
  refine V_iload_n hC dX11_part_0 1 rfl ?_
  refine V_if_ne hC dX11_part_1 (tgt := 10) (by decide) (fun h1 => ?_) (fun h1 => ?_)
  · refine V_iload_n hC dX11_part_10 0 rfl ?_
    refine V_iload_n hC dX11_part_11 1 rfl ?_
    refine V_idiv hC dX11_part_12 (h1) ?_
    exact V_iret hC hQ hr [] (u := []) (by decide) rfl (by decide) (by decide) dX11_part_13 (⟨by unfold moPart; rw [if_neg h1], rfl⟩)
  · refine V_sipush hC dX11_part_4 (v := 999) (by decide) ?_
    refine V_goto hC dX11_part_7 (tgt := 13) (by decide) ?_
    exact V_iret hC hQ hr [] (u := []) (by decide) rfl (by decide) (by decide) dX11_part_13 (⟨by unfold moPart; rw [if_pos h1], rfl⟩)
set_option maxHeartbeats 4000000 in
set_option maxRecDepth 100000 in
/-- ClinkerWorksModel.modulusOf -/
theorem c_X11_modulusOf (l : Launch) (G : VG) (o : Nat) (f : Nat → Int32) (x : Int32) : Mi l G yX11_modulusOf cX11_modulusOf 6 .int 1 22 0 0 [.ref o, .int x] [[(o, .inl (G.2.1 0, 4, .inl f))]] (fun r u => r = moMod f x ∧ u = [[(o, .inl (G.2.1 0, 4, .inl f))]]) := by
  refine Mi_of (by decide) (Nat.le_of_ble_eq_true rfl) (fun pP eE sS mM aA bB tT cC AA QQ hC hr hnm hQ => ?_)
  refine V_bipush hC dX11_modulusOf_0 (v := 100) (by decide) ?_
  refine V_aload_n hC dX11_modulusOf_2 0 rfl ?_
  refine V_iconst hC dX11_modulusOf_3 (v := 0) (by decide) ?_
  refine V_iald hC dX11_modulusOf_4 (mem_at 0 0 rfl rfl) (vin (by decide)) (x := 0) (by decide) ?_
  refine V_imul hC dX11_modulusOf_5 ?_
  refine V_iconst hC dX11_modulusOf_6 (v := 3) (by decide) ?_
  refine V_aload_n hC dX11_modulusOf_7 0 rfl ?_
  refine V_iconst hC dX11_modulusOf_8 (v := 1) (by decide) ?_
  refine V_iald hC dX11_modulusOf_9 (mem_at 0 0 rfl rfl) (vin (by decide)) (x := 1) (by decide) ?_
  refine V_imul hC dX11_modulusOf_10 ?_
  refine V_iconst hC dX11_modulusOf_11 (v := 2) (by decide) ?_
  refine V_aload_n hC dX11_modulusOf_12 0 rfl ?_
  refine V_iconst hC dX11_modulusOf_13 (v := 2) (by decide) ?_
  refine V_iald hC dX11_modulusOf_14 (mem_at 0 0 rfl rfl) (vin (by decide)) (x := 2) (by decide) ?_
  refine V_imul hC dX11_modulusOf_15 ?_
  refine V_iadd hC dX11_modulusOf_16 ?_
  refine V_aload_n hC dX11_modulusOf_17 0 rfl ?_
  refine V_iconst hC dX11_modulusOf_18 (v := 3) (by decide) ?_
  refine V_iald hC dX11_modulusOf_19 (mem_at 0 0 rfl rfl) (vin (by decide)) (x := 3) (by decide) ?_
  refine V_iadd hC dX11_modulusOf_20 ?_
  refine V_calli hC (V_runS hC (rest := []) [.int (100 * (f 0)), .int (((3 * (f 1)) + (2 * (f 2))) + (f 3))] (c_X11_part l G (100 * (f 0)) (((3 * (f 1)) + (2 * (f 2))) + (f 3))) [] rfl (by decide) q1258 q1259 q52 q1260 ⟨by decide, by decide, rfl⟩ ⟨by decide, by decide⟩ rfl (Nat.le_of_ble_eq_true rfl) ⟨by decide, by decide⟩ dX11_modulusOf_21) (is := []) rfl [0] (rs := [[(o, .inl (G.2.1 0, 4, .inl f))]]) rfl (by decide) (by decide) ?_
  rintro _ _ ⟨rfl, rfl⟩
  refine V_istore_n hC dX11_modulusOf_24 (L' := [(2, .int (moPart (100 * (f 0)) (((3 * (f 1)) + (2 * (f 2))) + (f 3)))), (0, .ref o), (1, .int x)]) (by decide) rfl ?_
  refine V_bipush hC dX11_modulusOf_25 (v := 10) (by decide) ?_
  refine V_aload_n hC dX11_modulusOf_27 1 rfl ?_
  refine V_iconst hC dX11_modulusOf_28 (v := 1) (by decide) ?_
  refine V_iald hC dX11_modulusOf_29 (mem_at 0 0 rfl rfl) (vin (by decide)) (x := 1) (by decide) ?_
  refine V_imul hC dX11_modulusOf_30 ?_
  refine V_aload_n hC dX11_modulusOf_31 1 rfl ?_
  refine V_iconst hC dX11_modulusOf_32 (v := 2) (by decide) ?_
  refine V_iald hC dX11_modulusOf_33 (mem_at 0 0 rfl rfl) (vin (by decide)) (x := 2) (by decide) ?_
  refine V_aload_n hC dX11_modulusOf_34 1 rfl ?_
  refine V_iconst hC dX11_modulusOf_35 (v := 3) (by decide) ?_
  refine V_iald hC dX11_modulusOf_36 (mem_at 0 0 rfl rfl) (vin (by decide)) (x := 3) (by decide) ?_
  refine V_iadd hC dX11_modulusOf_37 ?_
  refine V_calli hC (V_runS hC (rest := []) [.int (10 * (f 1)), .int ((f 2) + (f 3))] (c_X11_part l G (10 * (f 1)) ((f 2) + (f 3))) [] rfl (by decide) q1258 q1259 q52 q1260 ⟨by decide, by decide, rfl⟩ ⟨by decide, by decide⟩ rfl (Nat.le_of_ble_eq_true rfl) ⟨by decide, by decide⟩ dX11_modulusOf_38) (is := []) rfl [0] (rs := [[(o, .inl (G.2.1 0, 4, .inl f))]]) rfl (by decide) (by decide) ?_
  rintro _ _ ⟨rfl, rfl⟩
  refine V_istore_n hC dX11_modulusOf_41 (L' := [(3, .int (moPart (10 * (f 1)) ((f 2) + (f 3)))), (2, .int (moPart (100 * (f 0)) (((3 * (f 1)) + (2 * (f 2))) + (f 3)))), (0, .ref o), (1, .int x)]) (by decide) rfl ?_
  refine V_bipush hC dX11_modulusOf_42 (v := 10) (by decide) ?_
  refine V_aload_n hC dX11_modulusOf_44 2 rfl ?_
  refine V_iconst hC dX11_modulusOf_45 (v := 2) (by decide) ?_
  refine V_iald hC dX11_modulusOf_46 (mem_at 0 0 rfl rfl) (vin (by decide)) (x := 2) (by decide) ?_
  refine V_imul hC dX11_modulusOf_47 ?_
  refine V_aload_n hC dX11_modulusOf_48 2 rfl ?_
  refine V_iconst hC dX11_modulusOf_49 (v := 3) (by decide) ?_
  refine V_iald hC dX11_modulusOf_50 (mem_at 0 0 rfl rfl) (vin (by decide)) (x := 3) (by decide) ?_
  refine V_calli hC (V_runS hC (rest := []) [.int (10 * (f 2)), .int (f 3)] (c_X11_part l G (10 * (f 2)) (f 3)) [] rfl (by decide) q1258 q1259 q52 q1260 ⟨by decide, by decide, rfl⟩ ⟨by decide, by decide⟩ rfl (Nat.le_of_ble_eq_true rfl) ⟨by decide, by decide⟩ dX11_modulusOf_51) (is := []) rfl [0] (rs := [[(o, .inl (G.2.1 0, 4, .inl f))]]) rfl (by decide) (by decide) ?_
  rintro _ _ ⟨rfl, rfl⟩
  refine V_istore hC dX11_modulusOf_54 (L' := [(4, .int (moPart (10 * (f 2)) (f 3))), (3, .int (moPart (10 * (f 1)) ((f 2) + (f 3)))), (2, .int (moPart (100 * (f 0)) (((3 * (f 1)) + (2 * (f 2))) + (f 3)))), (0, .ref o), (1, .int x)]) (by decide) rfl ?_
  refine V_iload_n hC dX11_modulusOf_56 2 rfl ?_
  refine V_bipush hC dX11_modulusOf_57 (v := 80) (by decide) ?_
  refine V_bipush hC dX11_modulusOf_59 (v := 110) (by decide) ?_
  refine V_calli hC (V_runS hC (rest := []) [.int (moPart (100 * (f 0)) (((3 * (f 1)) + (2 * (f 2))) + (f 3))), .int 80, .int 110] (c_X11_in l G (moPart (100 * (f 0)) (((3 * (f 1)) + (2 * (f 2))) + (f 3))) 80 110) [] rfl (by decide) q1138 q1139 q52 q1140 ⟨by decide, by decide, rfl⟩ ⟨by decide, by decide⟩ rfl (Nat.le_of_ble_eq_true rfl) ⟨by decide, by decide⟩ dX11_modulusOf_61) (is := []) rfl [0] (rs := [[(o, .inl (G.2.1 0, 4, .inl f))]]) rfl (by decide) (by decide) ?_
  rintro _ _ ⟨rfl, rfl⟩
  refine V_if_eq hC dX11_modulusOf_64 (tgt := 93) (by decide) (fun h1 => ?_) (fun h1 => ?_)
  · refine V_iconst hC dX11_modulusOf_93 (v := 0) (by decide) ?_
    refine V_istore hC dX11_modulusOf_94 (L' := [(5, .int 0), (4, .int (moPart (10 * (f 2)) (f 3))), (3, .int (moPart (10 * (f 1)) ((f 2) + (f 3)))), (2, .int (moPart (100 * (f 0)) (((3 * (f 1)) + (2 * (f 2))) + (f 3)))), (0, .ref o), (1, .int x)]) (by decide) rfl ?_
    refine V_iload_n hC dX11_modulusOf_96 5 rfl ?_
    refine V_if_ne hC dX11_modulusOf_97 (tgt := 104) (by decide) (fun h2 => ?_) (fun h2 => ?_)
    · refine V_iload_n hC dX11_modulusOf_104 5 rfl ?_
      refine V_iconst hC dX11_modulusOf_105 (v := 1) (by decide) ?_
      refine V_icmp_ne hC dX11_modulusOf_106 (tgt := 113) (by decide) (fun h3 => ?_) (fun h3 => ?_)
      · refine V_iload_n hC dX11_modulusOf_113 5 rfl ?_
        refine V_iconst hC dX11_modulusOf_114 (v := 2) (by decide) ?_
        refine V_icmp_ne hC dX11_modulusOf_115 (tgt := 123) (by decide) (fun h4 => ?_) (fun h4 => ?_)
        · refine V_iload hC dX11_modulusOf_123 0 rfl ?_
          refine V_if_eqT hC dX11_modulusOf_125 (tgt := 132) (by decide) (by decide) ?_
          refine V_iconst hC dX11_modulusOf_132 (v := 0) (by decide) ?_
          exact V_iret hC hQ hr [0] (u := [[(o, .inl (G.2.1 0, 4, .inl f))]]) (by decide) rfl (by decide) (by decide) dX11_modulusOf_133 (⟨by unfold moMod; simp_all [moSat, moSil, moAlu, moRight], rfl⟩)
        · refine V_iload hC dX11_modulusOf_118 1 rfl ?_
          refine V_goto hC dX11_modulusOf_120 (tgt := 133) (by decide) ?_
          exact V_iret hC hQ hr [0] (u := [[(o, .inl (G.2.1 0, 4, .inl f))]]) (by decide) rfl (by decide) (by decide) dX11_modulusOf_133 (⟨by unfold moMod; simp_all [moSat, moSil, moAlu, moRight], rfl⟩)
      · refine V_iload_n hC dX11_modulusOf_109 2 rfl ?_
        refine V_goto hC dX11_modulusOf_110 (tgt := 133) (by decide) ?_
        exact V_iret hC hQ hr [0] (u := [[(o, .inl (G.2.1 0, 4, .inl f))]]) (by decide) rfl (by decide) (by decide) dX11_modulusOf_133 (⟨by unfold moMod; simp_all [moSat, moSil, moAlu, moRight], rfl⟩)
    · refine V_iload_n hC dX11_modulusOf_100 3 rfl ?_
      refine V_goto hC dX11_modulusOf_101 (tgt := 133) (by decide) ?_
      exact V_iret hC hQ hr [0] (u := [[(o, .inl (G.2.1 0, 4, .inl f))]]) (by decide) rfl (by decide) (by decide) dX11_modulusOf_133 (⟨by unfold moMod; simp_all [moSat, moSil, moAlu, moRight], rfl⟩)
  · refine V_iload_n hC dX11_modulusOf_67 1 rfl ?_
    refine V_bipush hC dX11_modulusOf_68 (v := 12) (by decide) ?_
    refine V_bipush hC dX11_modulusOf_70 (v := 40) (by decide) ?_
    refine V_calli hC (V_runS hC (rest := []) [.int (moPart (10 * (f 1)) ((f 2) + (f 3))), .int 12, .int 40] (c_X11_in l G (moPart (10 * (f 1)) ((f 2) + (f 3))) 12 40) [] rfl (by decide) q1138 q1139 q52 q1140 ⟨by decide, by decide, rfl⟩ ⟨by decide, by decide⟩ rfl (Nat.le_of_ble_eq_true rfl) ⟨by decide, by decide⟩ dX11_modulusOf_72) (is := []) rfl [0] (rs := [[(o, .inl (G.2.1 0, 4, .inl f))]]) rfl (by decide) (by decide) ?_
    rintro _ _ ⟨rfl, rfl⟩
    refine V_if_eq hC dX11_modulusOf_75 (tgt := 93) (by decide) (fun h5 => ?_) (fun h5 => ?_)
    · refine V_iconst hC dX11_modulusOf_93 (v := 0) (by decide) ?_
      refine V_istore hC dX11_modulusOf_94 (L' := [(5, .int 0), (4, .int (moPart (10 * (f 2)) (f 3))), (3, .int (moPart (10 * (f 1)) ((f 2) + (f 3)))), (2, .int (moPart (100 * (f 0)) (((3 * (f 1)) + (2 * (f 2))) + (f 3)))), (0, .ref o), (1, .int x)]) (by decide) rfl ?_
      refine V_iload_n hC dX11_modulusOf_96 5 rfl ?_
      refine V_if_ne hC dX11_modulusOf_97 (tgt := 104) (by decide) (fun h6 => ?_) (fun h6 => ?_)
      · refine V_iload_n hC dX11_modulusOf_104 5 rfl ?_
        refine V_iconst hC dX11_modulusOf_105 (v := 1) (by decide) ?_
        refine V_icmp_ne hC dX11_modulusOf_106 (tgt := 113) (by decide) (fun h7 => ?_) (fun h7 => ?_)
        · refine V_iload_n hC dX11_modulusOf_113 5 rfl ?_
          refine V_iconst hC dX11_modulusOf_114 (v := 2) (by decide) ?_
          refine V_icmp_ne hC dX11_modulusOf_115 (tgt := 123) (by decide) (fun h8 => ?_) (fun h8 => ?_)
          · refine V_iload hC dX11_modulusOf_123 0 rfl ?_
            refine V_if_eqT hC dX11_modulusOf_125 (tgt := 132) (by decide) (by decide) ?_
            refine V_iconst hC dX11_modulusOf_132 (v := 0) (by decide) ?_
            exact V_iret hC hQ hr [0] (u := [[(o, .inl (G.2.1 0, 4, .inl f))]]) (by decide) rfl (by decide) (by decide) dX11_modulusOf_133 (⟨by unfold moMod; simp_all [moSat, moSil, moAlu, moRight], rfl⟩)
          · refine V_iload hC dX11_modulusOf_118 1 rfl ?_
            refine V_goto hC dX11_modulusOf_120 (tgt := 133) (by decide) ?_
            exact V_iret hC hQ hr [0] (u := [[(o, .inl (G.2.1 0, 4, .inl f))]]) (by decide) rfl (by decide) (by decide) dX11_modulusOf_133 (⟨by unfold moMod; simp_all [moSat, moSil, moAlu, moRight], rfl⟩)
        · refine V_iload_n hC dX11_modulusOf_109 2 rfl ?_
          refine V_goto hC dX11_modulusOf_110 (tgt := 133) (by decide) ?_
          exact V_iret hC hQ hr [0] (u := [[(o, .inl (G.2.1 0, 4, .inl f))]]) (by decide) rfl (by decide) (by decide) dX11_modulusOf_133 (⟨by unfold moMod; simp_all [moSat, moSil, moAlu, moRight], rfl⟩)
      · refine V_iload_n hC dX11_modulusOf_100 3 rfl ?_
        refine V_goto hC dX11_modulusOf_101 (tgt := 133) (by decide) ?_
        exact V_iret hC hQ hr [0] (u := [[(o, .inl (G.2.1 0, 4, .inl f))]]) (by decide) rfl (by decide) (by decide) dX11_modulusOf_133 (⟨by unfold moMod; simp_all [moSat, moSil, moAlu, moRight], rfl⟩)
    · refine V_iload hC dX11_modulusOf_78 0 rfl ?_
      refine V_iconst hC dX11_modulusOf_80 (v := 5) (by decide) ?_
      refine V_bipush hC dX11_modulusOf_81 (v := 40) (by decide) ?_
      refine V_calli hC (V_runS hC (rest := []) [.int (moPart (10 * (f 2)) (f 3)), .int 5, .int 40] (c_X11_in l G (moPart (10 * (f 2)) (f 3)) 5 40) [] rfl (by decide) q1138 q1139 q52 q1140 ⟨by decide, by decide, rfl⟩ ⟨by decide, by decide⟩ rfl (Nat.le_of_ble_eq_true rfl) ⟨by decide, by decide⟩ dX11_modulusOf_83) (is := []) rfl [0] (rs := [[(o, .inl (G.2.1 0, 4, .inl f))]]) rfl (by decide) (by decide) ?_
      rintro _ _ ⟨rfl, rfl⟩
      refine V_if_eq hC dX11_modulusOf_86 (tgt := 93) (by decide) (fun h9 => ?_) (fun h9 => ?_)
      · refine V_iconst hC dX11_modulusOf_93 (v := 0) (by decide) ?_
        refine V_istore hC dX11_modulusOf_94 (L' := [(5, .int 0), (4, .int (moPart (10 * (f 2)) (f 3))), (3, .int (moPart (10 * (f 1)) ((f 2) + (f 3)))), (2, .int (moPart (100 * (f 0)) (((3 * (f 1)) + (2 * (f 2))) + (f 3)))), (0, .ref o), (1, .int x)]) (by decide) rfl ?_
        refine V_iload_n hC dX11_modulusOf_96 5 rfl ?_
        refine V_if_ne hC dX11_modulusOf_97 (tgt := 104) (by decide) (fun h10 => ?_) (fun h10 => ?_)
        · refine V_iload_n hC dX11_modulusOf_104 5 rfl ?_
          refine V_iconst hC dX11_modulusOf_105 (v := 1) (by decide) ?_
          refine V_icmp_ne hC dX11_modulusOf_106 (tgt := 113) (by decide) (fun h11 => ?_) (fun h11 => ?_)
          · refine V_iload_n hC dX11_modulusOf_113 5 rfl ?_
            refine V_iconst hC dX11_modulusOf_114 (v := 2) (by decide) ?_
            refine V_icmp_ne hC dX11_modulusOf_115 (tgt := 123) (by decide) (fun h12 => ?_) (fun h12 => ?_)
            · refine V_iload hC dX11_modulusOf_123 0 rfl ?_
              refine V_if_eqT hC dX11_modulusOf_125 (tgt := 132) (by decide) (by decide) ?_
              refine V_iconst hC dX11_modulusOf_132 (v := 0) (by decide) ?_
              exact V_iret hC hQ hr [0] (u := [[(o, .inl (G.2.1 0, 4, .inl f))]]) (by decide) rfl (by decide) (by decide) dX11_modulusOf_133 (⟨by unfold moMod; simp_all [moSat, moSil, moAlu, moRight], rfl⟩)
            · refine V_iload hC dX11_modulusOf_118 1 rfl ?_
              refine V_goto hC dX11_modulusOf_120 (tgt := 133) (by decide) ?_
              exact V_iret hC hQ hr [0] (u := [[(o, .inl (G.2.1 0, 4, .inl f))]]) (by decide) rfl (by decide) (by decide) dX11_modulusOf_133 (⟨by unfold moMod; simp_all [moSat, moSil, moAlu, moRight], rfl⟩)
          · refine V_iload_n hC dX11_modulusOf_109 2 rfl ?_
            refine V_goto hC dX11_modulusOf_110 (tgt := 133) (by decide) ?_
            exact V_iret hC hQ hr [0] (u := [[(o, .inl (G.2.1 0, 4, .inl f))]]) (by decide) rfl (by decide) (by decide) dX11_modulusOf_133 (⟨by unfold moMod; simp_all [moSat, moSil, moAlu, moRight], rfl⟩)
        · refine V_iload_n hC dX11_modulusOf_100 3 rfl ?_
          refine V_goto hC dX11_modulusOf_101 (tgt := 133) (by decide) ?_
          exact V_iret hC hQ hr [0] (u := [[(o, .inl (G.2.1 0, 4, .inl f))]]) (by decide) rfl (by decide) (by decide) dX11_modulusOf_133 (⟨by unfold moMod; simp_all [moSat, moSil, moAlu, moRight], rfl⟩)
      · refine V_iconst hC dX11_modulusOf_89 (v := 1) (by decide) ?_
        refine V_goto hC dX11_modulusOf_90 (tgt := 94) (by decide) ?_
        refine V_istore hC dX11_modulusOf_94 (L' := [(5, .int 1), (4, .int (moPart (10 * (f 2)) (f 3))), (3, .int (moPart (10 * (f 1)) ((f 2) + (f 3)))), (2, .int (moPart (100 * (f 0)) (((3 * (f 1)) + (2 * (f 2))) + (f 3)))), (0, .ref o), (1, .int x)]) (by decide) rfl ?_
        refine V_iload_n hC dX11_modulusOf_96 5 rfl ?_
        refine V_if_ne hC dX11_modulusOf_97 (tgt := 104) (by decide) (fun h13 => ?_) (fun h13 => ?_)
        · refine V_iload_n hC dX11_modulusOf_104 5 rfl ?_
          refine V_iconst hC dX11_modulusOf_105 (v := 1) (by decide) ?_
          refine V_icmp_ne hC dX11_modulusOf_106 (tgt := 113) (by decide) (fun h14 => ?_) (fun h14 => ?_)
          · refine V_iload_n hC dX11_modulusOf_113 5 rfl ?_
            refine V_iconst hC dX11_modulusOf_114 (v := 2) (by decide) ?_
            refine V_icmp_ne hC dX11_modulusOf_115 (tgt := 123) (by decide) (fun h15 => ?_) (fun h15 => ?_)
            · refine V_iload hC dX11_modulusOf_123 0 rfl ?_
              refine V_if_eqF hC dX11_modulusOf_125 (tgt := 132) (by decide) (by decide) ?_
              refine V_iconst hC dX11_modulusOf_128 (v := 1) (by decide) ?_
              refine V_goto hC dX11_modulusOf_129 (tgt := 133) (by decide) ?_
              exact V_iret hC hQ hr [0] (u := [[(o, .inl (G.2.1 0, 4, .inl f))]]) (by decide) rfl (by decide) (by decide) dX11_modulusOf_133 (⟨by unfold moMod; simp_all [moSat, moSil, moAlu, moRight], rfl⟩)
            · refine V_iload hC dX11_modulusOf_118 1 rfl ?_
              refine V_goto hC dX11_modulusOf_120 (tgt := 133) (by decide) ?_
              exact V_iret hC hQ hr [0] (u := [[(o, .inl (G.2.1 0, 4, .inl f))]]) (by decide) rfl (by decide) (by decide) dX11_modulusOf_133 (⟨by unfold moMod; simp_all [moSat, moSil, moAlu, moRight], rfl⟩)
          · refine V_iload_n hC dX11_modulusOf_109 2 rfl ?_
            refine V_goto hC dX11_modulusOf_110 (tgt := 133) (by decide) ?_
            exact V_iret hC hQ hr [0] (u := [[(o, .inl (G.2.1 0, 4, .inl f))]]) (by decide) rfl (by decide) (by decide) dX11_modulusOf_133 (⟨by unfold moMod; simp_all [moSat, moSil, moAlu, moRight], rfl⟩)
        · refine V_iload_n hC dX11_modulusOf_100 3 rfl ?_
          refine V_goto hC dX11_modulusOf_101 (tgt := 133) (by decide) ?_
          exact V_iret hC hQ hr [0] (u := [[(o, .inl (G.2.1 0, 4, .inl f))]]) (by decide) rfl (by decide) (by decide) dX11_modulusOf_133 (⟨by unfold moMod; simp_all [moSat, moSil, moAlu, moRight], rfl⟩)
