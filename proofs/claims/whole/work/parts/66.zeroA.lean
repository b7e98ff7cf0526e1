/-! ===== questions, where nothing is thrown ===== -/
set_option maxHeartbeats 4000000 in
set_option maxRecDepth 100000 in
/-- ClinkerWorks.needIndex -/
theorem c_X8z_needIndex (l : Launch) (G : VG) (x n : Int32) (hz : ixB x n = 1) : Mv l G yX8_needIndex cX8_needIndex 2 1 21 0 0 [.int x, .int n] [] (fun u => u = []) := by
  refine Mv_of (by decide) (Nat.le_of_ble_eq_true rfl) (fun pP eE sS mM aA bB tT cC AA QQ hC hr hnm hQ => ?_)
  refine V_iload_n hC dX8_needIndex_0 0 rfl ?_
  refine V_iload_n hC dX8_needIndex_1 1 rfl ?_
  refine V_calli hC (V_runS hC (rest := []) [.int x, .int n] (c_X8_isIndex l G x n) [] rfl (by decide) q483 q484 q43 q485 ⟨by decide, by decide, rfl⟩ ⟨by decide, by decide⟩ rfl (Nat.le_of_ble_eq_true rfl) ⟨by decide, by decide⟩ dX8_needIndex_2) (is := []) rfl [] (rs := []) rfl (by decide) (by decide) ?_
  rintro _ _ ⟨rfl, rfl⟩
  refine V_if_ne hC dX8_needIndex_5 (tgt := 19) (by decide) (fun h1 => ?_) (fun h1 => ?_)
  · exact V_vret hC hQ hr [] (u := []) (by decide) rfl (by decide) (by decide) dX8_needIndex_19 (rfl)
  · exact absurd ((show ixB x n = 0 from by first | exact h1 | exact Decidable.not_not.mp h1).symm.trans hz) (by decide)
set_option maxHeartbeats 4000000 in
set_option maxRecDepth 100000 in
/-- ClinkerWorks.needArgument -/
theorem c_X8z_needArgument (l : Launch) (G : VG) (x a b : Int32) (hz : a ≤ x ∧ x ≤ b) : Mv l G yX8_needArgument cX8_needArgument 3 0 0 0 0 [.int x, .int a, .int b] [] (fun u => u = []) := by
  refine Mv_of (by decide) (Nat.le_of_ble_eq_true rfl) (fun pP eE sS mM aA bB tT cC AA QQ hC hr hnm hQ => ?_)
  refine V_iload_n hC dX8_needArgument_0 0 rfl ?_
  refine V_iload_n hC dX8_needArgument_1 1 rfl ?_
  refine V_icmp_lt hC dX8_needArgument_2 (tgt := 10) (by decide) (fun h1 => ?_) (fun h1 => ?_)
  · exact absurd hz.1 (i32_nle h1)
  · refine V_iload_n hC dX8_needArgument_5 0 rfl ?_
    refine V_iload_n hC dX8_needArgument_6 2 rfl ?_
    refine V_icmp_le hC dX8_needArgument_7 (tgt := 21) (by decide) (fun h2 => ?_) (fun h2 => ?_)
    · exact V_vret hC hQ hr [] (u := []) (by decide) rfl (by decide) (by decide) dX8_needArgument_21 (rfl)
    · exact absurd hz.2 h2
set_option maxHeartbeats 4000000 in
set_option maxRecDepth 100000 in
/-- ClinkerWorks.ofBlock -/
theorem c_X8z_ofBlock (l : Launch) (G : VG) (X : Nat → Nat) (nb nl : Nat) (du mo cl : Int32) (B : Nat → Nat → Nat) (bz : Nat → BV) (i w : Nat) (hnb : nb ≤ 6) (hk01 : ∀ j, j < 6 → (bz j).2.1 = 0 ∨ (bz j).2.1 = 1) (hi : i < nb) (hw : w ≤ 5) : Mi l G yX8_ofBlock cX8_ofBlock 3 .int 2 42 0 0 [.ref (X 0), .int (nI i), .int (nI w)] [[(X 0, .inr (9, [.ref (X 1), .int (nI nb), .ref (X 2), .ref (X 6), .ref (X 8), .ref (X 10), .ref (X 14), .ref (X 18), .int (nI nl), .int du, .ref (X 19), .int mo, .ref (X 20), .int cl]))], [(X 1, .inl (G.2.1 3, 6, .inr (.inr (.inr (.inr (refA 6 B))))))], famW 6 (fun ι => bkP G (B ι) (bz ι))] (fun r u => r = qBlock (bz i) w ∧ u = [[(X 0, .inr (9, [.ref (X 1), .int (nI nb), .ref (X 2), .ref (X 6), .ref (X 8), .ref (X 10), .ref (X 14), .ref (X 18), .int (nI nl), .int du, .ref (X 19), .int mo, .ref (X 20), .int cl]))], [(X 1, .inl (G.2.1 3, 6, .inr (.inr (.inr (.inr (refA 6 B))))))], famW 6 (fun ι => bkP G (B ι) (bz ι))]) := by
  refine Mi_of (by decide) (Nat.le_of_ble_eq_true rfl) (fun pP eE sS mM aA bB tT cC AA QQ hC hr hnm hQ => ?_)
  refine V_iload_n hC dX8_ofBlock_0 1 rfl ?_
  refine V_aload_n hC dX8_ofBlock_1 0 rfl ?_
  refine V_get hC dX8_ofBlock_2 inAX8 (mem_at 0 0 rfl rfl) rfl 1 (by decide) q311 rfl (v := .int (nI nb)) rfl ?_
  refine V_callv hC (V_runS hC (rest := []) [.int (nI i), .int (nI nb)] (c_X8z_needIndex l G (nI i) (nI nb) (ixB_in (N := nb) hi)) [] rfl (by decide) q480 q481 q43 q482 ⟨by decide, by decide, rfl⟩ ⟨by decide, by decide⟩ rfl (Nat.le_of_ble_eq_true rfl) ⟨by decide, by decide⟩ dX8_ofBlock_5) (is := []) rfl [0, 1, 2] (rs := [[(X 0, .inr (9, [.ref (X 1), .int (nI nb), .ref (X 2), .ref (X 6), .ref (X 8), .ref (X 10), .ref (X 14), .ref (X 18), .int (nI nl), .int du, .ref (X 19), .int mo, .ref (X 20), .int cl]))], [(X 1, .inl (G.2.1 3, 6, .inr (.inr (.inr (.inr (refA 6 B))))))], famW 6 (fun ι => bkP G (B ι) (bz ι))]) rfl (by decide) (by decide) ?_
  rintro _ rfl
  refine V_iload_n hC dX8_ofBlock_8 2 rfl ?_
  refine V_iconst hC dX8_ofBlock_9 (v := 0) (by decide) ?_
  refine V_iconst hC dX8_ofBlock_10 (v := 5) (by decide) ?_
  refine V_callv hC (V_runS hC (rest := []) [.int (nI w), .int 0, .int 5] (c_X8z_needArgument l G (nI w) 0 5 (inR_nI (M := 5) hw)) [] rfl (by decide) q390 q391 q43 q392 ⟨by decide, by decide, rfl⟩ ⟨by decide, by decide⟩ rfl (Nat.le_of_ble_eq_true rfl) ⟨by decide, by decide⟩ dX8_ofBlock_11) (is := []) rfl [0, 1, 2] (rs := [[(X 0, .inr (9, [.ref (X 1), .int (nI nb), .ref (X 2), .ref (X 6), .ref (X 8), .ref (X 10), .ref (X 14), .ref (X 18), .int (nI nl), .int du, .ref (X 19), .int mo, .ref (X 20), .int cl]))], [(X 1, .inl (G.2.1 3, 6, .inr (.inr (.inr (.inr (refA 6 B))))))], famW 6 (fun ι => bkP G (B ι) (bz ι))]) rfl (by decide) (by decide) ?_
  rintro _ rfl
  rcases (show w = 0 ∨ w = 1 ∨ w = 2 ∨ w = 3 ∨ w = 4 ∨ w = 5 by omega) with rfl | rfl | rfl | rfl | rfl | rfl
  · refine V_iload_n hC dX8_ofBlock_14 2 rfl ?_
    refine V_if_neF hC dX8_ofBlock_15 (tgt := 28) (by decide) (by decide) ?_
    refine V_aload_n hC dX8_ofBlock_18 0 rfl ?_
    refine V_get hC dX8_ofBlock_19 inAX8 (mem_at 0 0 rfl rfl) rfl 0 (by decide) q310 rfl (v := .ref (X 1)) rfl ?_
    refine V_iload_n hC dX8_ofBlock_22 1 rfl ?_
    refine V_aald hC dX8_ofBlock_23 3 rfl (mem_at 1 0 rfl rfl) (vp_in_nI (by omega) (by omega)) (x := i) (nI_clamp (by omega)) (b := (B i) 0) (refA_at (by omega)) ?_
    refine V_get hC dX8_ofBlock_24 inAX0 (mem_fam 2 0 rfl i (by first | assumption | omega) rfl) rfl 0 (by decide) q248 rfl (v := .int ((bz i).1)) rfl ?_
    exact V_iret hC hQ hr [0, 1, 2] (u := [[(X 0, .inr (9, [.ref (X 1), .int (nI nb), .ref (X 2), .ref (X 6), .ref (X 8), .ref (X 10), .ref (X 14), .ref (X 18), .int (nI nl), .int du, .ref (X 19), .int mo, .ref (X 20), .int cl]))], [(X 1, .inl (G.2.1 3, 6, .inr (.inr (.inr (.inr (refA 6 B))))))], famW 6 (fun ι => bkP G (B ι) (bz ι))]) (by decide) rfl (by decide) (by decide) dX8_ofBlock_27 (⟨rfl, rfl⟩)
  · refine V_iload_n hC dX8_ofBlock_14 2 rfl ?_
    refine V_if_neT hC dX8_ofBlock_15 (tgt := 28) (by decide) (by decide) ?_
    refine V_iload_n hC dX8_ofBlock_28 2 rfl ?_
    refine V_iconst hC dX8_ofBlock_29 (v := 1) (by decide) ?_
    refine V_icmp_neF hC dX8_ofBlock_30 (tgt := 46) (by decide) (by decide) ?_
    refine V_aload_n hC dX8_ofBlock_33 0 rfl ?_
    refine V_get hC dX8_ofBlock_34 inAX8 (mem_at 0 0 rfl rfl) rfl 0 (by decide) q310 rfl (v := .ref (X 1)) rfl ?_
    refine V_iload_n hC dX8_ofBlock_37 1 rfl ?_
    refine V_aald hC dX8_ofBlock_38 3 rfl (mem_at 1 0 rfl rfl) (vp_in_nI (by omega) (by omega)) (x := i) (nI_clamp (by omega)) (b := (B i) 0) (refA_at (by omega)) ?_
    refine V_get hC dX8_ofBlock_39 inAX0 (mem_fam 2 0 rfl i (by first | assumption | omega) rfl) rfl 1 (by decide) q250 rfl (v := .int ((bz i).2.1)) rfl ?_
    refine V_calli hC (V_runS hC (rest := []) [.int ((bz i).2.1)] (c_X8_asNumber l G ((bz i).2.1) (hk01 i (by omega))) [] rfl (by decide) q465 q466 q43 q467 ⟨by decide, by decide, rfl⟩ ⟨by decide, by decide⟩ rfl (Nat.le_of_ble_eq_true rfl) ⟨by decide, by decide⟩ dX8_ofBlock_42) (is := []) rfl [0, 1, 2] (rs := [[(X 0, .inr (9, [.ref (X 1), .int (nI nb), .ref (X 2), .ref (X 6), .ref (X 8), .ref (X 10), .ref (X 14), .ref (X 18), .int (nI nl), .int du, .ref (X 19), .int mo, .ref (X 20), .int cl]))], [(X 1, .inl (G.2.1 3, 6, .inr (.inr (.inr (.inr (refA 6 B))))))], famW 6 (fun ι => bkP G (B ι) (bz ι))]) rfl (by decide) (by decide) ?_
    rintro _ _ ⟨rfl, rfl⟩
    exact V_iret hC hQ hr [0, 1, 2] (u := [[(X 0, .inr (9, [.ref (X 1), .int (nI nb), .ref (X 2), .ref (X 6), .ref (X 8), .ref (X 10), .ref (X 14), .ref (X 18), .int (nI nl), .int du, .ref (X 19), .int mo, .ref (X 20), .int cl]))], [(X 1, .inl (G.2.1 3, 6, .inr (.inr (.inr (.inr (refA 6 B))))))], famW 6 (fun ι => bkP G (B ι) (bz ι))]) (by decide) rfl (by decide) (by decide) dX8_ofBlock_45 (⟨rfl, rfl⟩)
  · refine V_iload_n hC dX8_ofBlock_14 2 rfl ?_
    refine V_if_neT hC dX8_ofBlock_15 (tgt := 28) (by decide) (by decide) ?_
    refine V_iload_n hC dX8_ofBlock_28 2 rfl ?_
    refine V_iconst hC dX8_ofBlock_29 (v := 1) (by decide) ?_
    refine V_icmp_neT hC dX8_ofBlock_30 (tgt := 46) (by decide) (by decide) ?_
    refine V_aload_n hC dX8_ofBlock_46 0 rfl ?_
    refine V_get hC dX8_ofBlock_47 inAX8 (mem_at 0 0 rfl rfl) rfl 0 (by decide) q310 rfl (v := .ref (X 1)) rfl ?_
    refine V_iload_n hC dX8_ofBlock_50 1 rfl ?_
    refine V_aald hC dX8_ofBlock_51 3 rfl (mem_at 1 0 rfl rfl) (vp_in_nI (by omega) (by omega)) (x := i) (nI_clamp (by omega)) (b := (B i) 0) (refA_at (by omega)) ?_
    refine V_iload_n hC dX8_ofBlock_52 2 rfl ?_
    refine V_iconst hC dX8_ofBlock_53 (v := 2) (by decide) ?_
    refine V_isub hC dX8_ofBlock_54 ?_
    refine V_eqi (y := 0) (by decide) ?_
    refine V_sub [2, 0, 1] (by decide) (u := [famW 6 (fun ι => bkP G (B ι) (bz ι)), [(X 0, .inr (9, [.ref (X 1), .int (nI nb), .ref (X 2), .ref (X 6), .ref (X 8), .ref (X 10), .ref (X 14), .ref (X 18), .int (nI nl), .int du, .ref (X 19), .int mo, .ref (X 20), .int cl]))], [(X 1, .inl (G.2.1 3, 6, .inr (.inr (.inr (.inr (refA 6 B))))))]]) rfl ?_
    refine V_open (i := i) (by omega) ?_
    refine V_calli hC (V_runV hC (rest := []) [.int 0] (k_X0_believed l G (B i) (bz i) 0 0 (by decide) (by decide)) [0] rfl (by decide) q502 q503 q504 q49 q505 ⟨by decide, by decide, rfl⟩ ⟨by decide, by decide⟩ (ci := 1) rfl (mem_at 0 0 rfl rfl) rfl (Nat.le_of_ble_eq_true rfl) ⟨by decide, by decide⟩ dX8_ofBlock_55) (is := [0]) rfl [1, 2, 3] (rs := [famX 6 i (fun ι => bkP G (B ι) (bz ι)), [(X 0, .inr (9, [.ref (X 1), .int (nI nb), .ref (X 2), .ref (X 6), .ref (X 8), .ref (X 10), .ref (X 14), .ref (X 18), .int (nI nl), .int du, .ref (X 19), .int mo, .ref (X 20), .int cl]))], [(X 1, .inl (G.2.1 3, 6, .inr (.inr (.inr (.inr (refA 6 B))))))]]) rfl (by decide) (by decide) ?_
    rintro _ _ ⟨rfl, rfl⟩
    refine V_close (i := i) (g' := fun ι => bkP G (B ι) (bz ι)) (by omega) (rfl) (fun _ _ _ => rfl) ?_
    exact V_iret hC hQ hr [1, 2, 0] (u := [[(X 0, .inr (9, [.ref (X 1), .int (nI nb), .ref (X 2), .ref (X 6), .ref (X 8), .ref (X 10), .ref (X 14), .ref (X 18), .int (nI nl), .int du, .ref (X 19), .int mo, .ref (X 20), .int cl]))], [(X 1, .inl (G.2.1 3, 6, .inr (.inr (.inr (.inr (refA 6 B))))))], famW 6 (fun ι => bkP G (B ι) (bz ι))]) (by decide) rfl (by decide) (by decide) dX8_ofBlock_58 (⟨rfl, rfl⟩)
  · refine V_iload_n hC dX8_ofBlock_14 2 rfl ?_
    refine V_if_neT hC dX8_ofBlock_15 (tgt := 28) (by decide) (by decide) ?_
    refine V_iload_n hC dX8_ofBlock_28 2 rfl ?_
    refine V_iconst hC dX8_ofBlock_29 (v := 1) (by decide) ?_
    refine V_icmp_neT hC dX8_ofBlock_30 (tgt := 46) (by decide) (by decide) ?_
    refine V_aload_n hC dX8_ofBlock_46 0 rfl ?_
    refine V_get hC dX8_ofBlock_47 inAX8 (mem_at 0 0 rfl rfl) rfl 0 (by decide) q310 rfl (v := .ref (X 1)) rfl ?_
    refine V_iload_n hC dX8_ofBlock_50 1 rfl ?_
    refine V_aald hC dX8_ofBlock_51 3 rfl (mem_at 1 0 rfl rfl) (vp_in_nI (by omega) (by omega)) (x := i) (nI_clamp (by omega)) (b := (B i) 0) (refA_at (by omega)) ?_
    refine V_iload_n hC dX8_ofBlock_52 2 rfl ?_
    refine V_iconst hC dX8_ofBlock_53 (v := 2) (by decide) ?_
    refine V_isub hC dX8_ofBlock_54 ?_
    refine V_eqi (y := 1) (by decide) ?_
    refine V_sub [2, 0, 1] (by decide) (u := [famW 6 (fun ι => bkP G (B ι) (bz ι)), [(X 0, .inr (9, [.ref (X 1), .int (nI nb), .ref (X 2), .ref (X 6), .ref (X 8), .ref (X 10), .ref (X 14), .ref (X 18), .int (nI nl), .int du, .ref (X 19), .int mo, .ref (X 20), .int cl]))], [(X 1, .inl (G.2.1 3, 6, .inr (.inr (.inr (.inr (refA 6 B))))))]]) rfl ?_
    refine V_open (i := i) (by omega) ?_
    refine V_calli hC (V_runV hC (rest := []) [.int 1] (k_X0_believed l G (B i) (bz i) 1 1 (by decide) (by decide)) [0] rfl (by decide) q502 q503 q504 q49 q505 ⟨by decide, by decide, rfl⟩ ⟨by decide, by decide⟩ (ci := 1) rfl (mem_at 0 0 rfl rfl) rfl (Nat.le_of_ble_eq_true rfl) ⟨by decide, by decide⟩ dX8_ofBlock_55) (is := [0]) rfl [1, 2, 3] (rs := [famX 6 i (fun ι => bkP G (B ι) (bz ι)), [(X 0, .inr (9, [.ref (X 1), .int (nI nb), .ref (X 2), .ref (X 6), .ref (X 8), .ref (X 10), .ref (X 14), .ref (X 18), .int (nI nl), .int du, .ref (X 19), .int mo, .ref (X 20), .int cl]))], [(X 1, .inl (G.2.1 3, 6, .inr (.inr (.inr (.inr (refA 6 B))))))]]) rfl (by decide) (by decide) ?_
    rintro _ _ ⟨rfl, rfl⟩
    refine V_close (i := i) (g' := fun ι => bkP G (B ι) (bz ι)) (by omega) (rfl) (fun _ _ _ => rfl) ?_
    exact V_iret hC hQ hr [1, 2, 0] (u := [[(X 0, .inr (9, [.ref (X 1), .int (nI nb), .ref (X 2), .ref (X 6), .ref (X 8), .ref (X 10), .ref (X 14), .ref (X 18), .int (nI nl), .int du, .ref (X 19), .int mo, .ref (X 20), .int cl]))], [(X 1, .inl (G.2.1 3, 6, .inr (.inr (.inr (.inr (refA 6 B))))))], famW 6 (fun ι => bkP G (B ι) (bz ι))]) (by decide) rfl (by decide) (by decide) dX8_ofBlock_58 (⟨rfl, rfl⟩)
  · refine V_iload_n hC dX8_ofBlock_14 2 rfl ?_
    refine V_if_neT hC dX8_ofBlock_15 (tgt := 28) (by decide) (by decide) ?_
    refine V_iload_n hC dX8_ofBlock_28 2 rfl ?_
    refine V_iconst hC dX8_ofBlock_29 (v := 1) (by decide) ?_
    refine V_icmp_neT hC dX8_ofBlock_30 (tgt := 46) (by decide) (by decide) ?_
    refine V_aload_n hC dX8_ofBlock_46 0 rfl ?_
    refine V_get hC dX8_ofBlock_47 inAX8 (mem_at 0 0 rfl rfl) rfl 0 (by decide) q310 rfl (v := .ref (X 1)) rfl ?_
    refine V_iload_n hC dX8_ofBlock_50 1 rfl ?_
    refine V_aald hC dX8_ofBlock_51 3 rfl (mem_at 1 0 rfl rfl) (vp_in_nI (by omega) (by omega)) (x := i) (nI_clamp (by omega)) (b := (B i) 0) (refA_at (by omega)) ?_
    refine V_iload_n hC dX8_ofBlock_52 2 rfl ?_
    refine V_iconst hC dX8_ofBlock_53 (v := 2) (by decide) ?_
    refine V_isub hC dX8_ofBlock_54 ?_
    refine V_eqi (y := 2) (by decide) ?_
    refine V_sub [2, 0, 1] (by decide) (u := [famW 6 (fun ι => bkP G (B ι) (bz ι)), [(X 0, .inr (9, [.ref (X 1), .int (nI nb), .ref (X 2), .ref (X 6), .ref (X 8), .ref (X 10), .ref (X 14), .ref (X 18), .int (nI nl), .int du, .ref (X 19), .int mo, .ref (X 20), .int cl]))], [(X 1, .inl (G.2.1 3, 6, .inr (.inr (.inr (.inr (refA 6 B))))))]]) rfl ?_
    refine V_open (i := i) (by omega) ?_
    refine V_calli hC (V_runV hC (rest := []) [.int 2] (k_X0_believed l G (B i) (bz i) 2 2 (by decide) (by decide)) [0] rfl (by decide) q502 q503 q504 q49 q505 ⟨by decide, by decide, rfl⟩ ⟨by decide, by decide⟩ (ci := 1) rfl (mem_at 0 0 rfl rfl) rfl (Nat.le_of_ble_eq_true rfl) ⟨by decide, by decide⟩ dX8_ofBlock_55) (is := [0]) rfl [1, 2, 3] (rs := [famX 6 i (fun ι => bkP G (B ι) (bz ι)), [(X 0, .inr (9, [.ref (X 1), .int (nI nb), .ref (X 2), .ref (X 6), .ref (X 8), .ref (X 10), .ref (X 14), .ref (X 18), .int (nI nl), .int du, .ref (X 19), .int mo, .ref (X 20), .int cl]))], [(X 1, .inl (G.2.1 3, 6, .inr (.inr (.inr (.inr (refA 6 B))))))]]) rfl (by decide) (by decide) ?_
    rintro _ _ ⟨rfl, rfl⟩
    refine V_close (i := i) (g' := fun ι => bkP G (B ι) (bz ι)) (by omega) (rfl) (fun _ _ _ => rfl) ?_
    exact V_iret hC hQ hr [1, 2, 0] (u := [[(X 0, .inr (9, [.ref (X 1), .int (nI nb), .ref (X 2), .ref (X 6), .ref (X 8), .ref (X 10), .ref (X 14), .ref (X 18), .int (nI nl), .int du, .ref (X 19), .int mo, .ref (X 20), .int cl]))], [(X 1, .inl (G.2.1 3, 6, .inr (.inr (.inr (.inr (refA 6 B))))))], famW 6 (fun ι => bkP G (B ι) (bz ι))]) (by decide) rfl (by decide) (by decide) dX8_ofBlock_58 (⟨rfl, rfl⟩)
  · refine V_iload_n hC dX8_ofBlock_14 2 rfl ?_
    refine V_if_neT hC dX8_ofBlock_15 (tgt := 28) (by decide) (by decide) ?_
    refine V_iload_n hC dX8_ofBlock_28 2 rfl ?_
    refine V_iconst hC dX8_ofBlock_29 (v := 1) (by decide) ?_
    refine V_icmp_neT hC dX8_ofBlock_30 (tgt := 46) (by decide) (by decide) ?_
    refine V_aload_n hC dX8_ofBlock_46 0 rfl ?_
    refine V_get hC dX8_ofBlock_47 inAX8 (mem_at 0 0 rfl rfl) rfl 0 (by decide) q310 rfl (v := .ref (X 1)) rfl ?_
    refine V_iload_n hC dX8_ofBlock_50 1 rfl ?_
    refine V_aald hC dX8_ofBlock_51 3 rfl (mem_at 1 0 rfl rfl) (vp_in_nI (by omega) (by omega)) (x := i) (nI_clamp (by omega)) (b := (B i) 0) (refA_at (by omega)) ?_
    refine V_iload_n hC dX8_ofBlock_52 2 rfl ?_
    refine V_iconst hC dX8_ofBlock_53 (v := 2) (by decide) ?_
    refine V_isub hC dX8_ofBlock_54 ?_
    refine V_eqi (y := 3) (by decide) ?_
    refine V_sub [2, 0, 1] (by decide) (u := [famW 6 (fun ι => bkP G (B ι) (bz ι)), [(X 0, .inr (9, [.ref (X 1), .int (nI nb), .ref (X 2), .ref (X 6), .ref (X 8), .ref (X 10), .ref (X 14), .ref (X 18), .int (nI nl), .int du, .ref (X 19), .int mo, .ref (X 20), .int cl]))], [(X 1, .inl (G.2.1 3, 6, .inr (.inr (.inr (.inr (refA 6 B))))))]]) rfl ?_
    refine V_open (i := i) (by omega) ?_
    refine V_calli hC (V_runV hC (rest := []) [.int 3] (k_X0_believed l G (B i) (bz i) 3 3 (by decide) (by decide)) [0] rfl (by decide) q502 q503 q504 q49 q505 ⟨by decide, by decide, rfl⟩ ⟨by decide, by decide⟩ (ci := 1) rfl (mem_at 0 0 rfl rfl) rfl (Nat.le_of_ble_eq_true rfl) ⟨by decide, by decide⟩ dX8_ofBlock_55) (is := [0]) rfl [1, 2, 3] (rs := [famX 6 i (fun ι => bkP G (B ι) (bz ι)), [(X 0, .inr (9, [.ref (X 1), .int (nI nb), .ref (X 2), .ref (X 6), .ref (X 8), .ref (X 10), .ref (X 14), .ref (X 18), .int (nI nl), .int du, .ref (X 19), .int mo, .ref (X 20), .int cl]))], [(X 1, .inl (G.2.1 3, 6, .inr (.inr (.inr (.inr (refA 6 B))))))]]) rfl (by decide) (by decide) ?_
    rintro _ _ ⟨rfl, rfl⟩
    refine V_close (i := i) (g' := fun ι => bkP G (B ι) (bz ι)) (by omega) (rfl) (fun _ _ _ => rfl) ?_
    exact V_iret hC hQ hr [1, 2, 0] (u := [[(X 0, .inr (9, [.ref (X 1), .int (nI nb), .ref (X 2), .ref (X 6), .ref (X 8), .ref (X 10), .ref (X 14), .ref (X 18), .int (nI nl), .int du, .ref (X 19), .int mo, .ref (X 20), .int cl]))], [(X 1, .inl (G.2.1 3, 6, .inr (.inr (.inr (.inr (refA 6 B))))))], famW 6 (fun ι => bkP G (B ι) (bz ι))]) (by decide) rfl (by decide) (by decide) dX8_ofBlock_58 (⟨rfl, rfl⟩)
set_option maxHeartbeats 4000000 in
set_option maxRecDepth 100000 in
/-- ClinkerWorks.ofLayer -/
theorem c_X8z_ofLayer (l : Launch) (G : VG) (X : Nat → Nat) (nb nl : Nat) (du mo cl : Int32) (n : Nat) (f g h : Nat → Int32) (i w : Nat) (hn : n ≤ 8) (hi : i < n) (hw : w ≤ 1) : Mi l G yX8_ofLayer cX8_ofLayer 3 .int 2 42 0 0 [.ref (X 0), .int (nI i), .int (nI w)] [[(X 0, .inr (9, [.ref (X 1), .int (nI nb), .ref (X 2), .ref (X 6), .ref (X 8), .ref (X 10), .ref (X 14), .ref (X 18), .int (nI nl), .int du, .ref (X 19), .int mo, .ref (X 20), .int cl]))], [(X 2, .inr (6, [.int (nI n), .ref (X 3), .ref (X 4), .ref (X 5)]))], [(X 3, .inl (G.2.1 0, 8, .inl f))], [(X 4, .inl (G.2.1 0, 8, .inl g))], [(X 5, .inl (G.2.1 0, 8, .inl h))]] (fun r u => r = (if w = 0 then f i else g i) ∧ u = [[(X 0, .inr (9, [.ref (X 1), .int (nI nb), .ref (X 2), .ref (X 6), .ref (X 8), .ref (X 10), .ref (X 14), .ref (X 18), .int (nI nl), .int du, .ref (X 19), .int mo, .ref (X 20), .int cl]))], [(X 2, .inr (6, [.int (nI n), .ref (X 3), .ref (X 4), .ref (X 5)]))], [(X 3, .inl (G.2.1 0, 8, .inl f))], [(X 4, .inl (G.2.1 0, 8, .inl g))], [(X 5, .inl (G.2.1 0, 8, .inl h))]]) := by
  refine Mi_of (by decide) (Nat.le_of_ble_eq_true rfl) (fun pP eE sS mM aA bB tT cC AA QQ hC hr hnm hQ => ?_)
  refine V_iload_n hC dX8_ofLayer_0 1 rfl ?_
  refine V_aload_n hC dX8_ofLayer_1 0 rfl ?_
  refine V_get hC dX8_ofLayer_2 inAX8 (mem_at 0 0 rfl rfl) rfl 2 (by decide) q312 rfl (v := .ref (X 2)) rfl ?_
  refine V_get hC dX8_ofLayer_5 inAX5 (mem_at 1 0 rfl rfl) rfl 0 (by decide) q87 rfl (v := .int (nI n)) rfl ?_
  refine V_callv hC (V_runS hC (rest := []) [.int (nI i), .int (nI n)] (c_X8z_needIndex l G (nI i) (nI n) (ixB_in (N := n) hi)) [] rfl (by decide) q480 q481 q43 q482 ⟨by decide, by decide, rfl⟩ ⟨by decide, by decide⟩ rfl (Nat.le_of_ble_eq_true rfl) ⟨by decide, by decide⟩ dX8_ofLayer_8) (is := []) rfl [0, 1, 2, 3, 4] (rs := [[(X 0, .inr (9, [.ref (X 1), .int (nI nb), .ref (X 2), .ref (X 6), .ref (X 8), .ref (X 10), .ref (X 14), .ref (X 18), .int (nI nl), .int du, .ref (X 19), .int mo, .ref (X 20), .int cl]))], [(X 2, .inr (6, [.int (nI n), .ref (X 3), .ref (X 4), .ref (X 5)]))], [(X 3, .inl (G.2.1 0, 8, .inl f))], [(X 4, .inl (G.2.1 0, 8, .inl g))], [(X 5, .inl (G.2.1 0, 8, .inl h))]]) rfl (by decide) (by decide) ?_
  rintro _ rfl
  refine V_iload_n hC dX8_ofLayer_11 2 rfl ?_
  refine V_iconst hC dX8_ofLayer_12 (v := 0) (by decide) ?_
  refine V_iconst hC dX8_ofLayer_13 (v := 1) (by decide) ?_
  refine V_callv hC (V_runS hC (rest := []) [.int (nI w), .int 0, .int 1] (c_X8z_needArgument l G (nI w) 0 1 (inR_nI (M := 1) hw)) [] rfl (by decide) q390 q391 q43 q392 ⟨by decide, by decide, rfl⟩ ⟨by decide, by decide⟩ rfl (Nat.le_of_ble_eq_true rfl) ⟨by decide, by decide⟩ dX8_ofLayer_14) (is := []) rfl [0, 1, 2, 3, 4] (rs := [[(X 0, .inr (9, [.ref (X 1), .int (nI nb), .ref (X 2), .ref (X 6), .ref (X 8), .ref (X 10), .ref (X 14), .ref (X 18), .int (nI nl), .int du, .ref (X 19), .int mo, .ref (X 20), .int cl]))], [(X 2, .inr (6, [.int (nI n), .ref (X 3), .ref (X 4), .ref (X 5)]))], [(X 3, .inl (G.2.1 0, 8, .inl f))], [(X 4, .inl (G.2.1 0, 8, .inl g))], [(X 5, .inl (G.2.1 0, 8, .inl h))]]) rfl (by decide) (by decide) ?_
  rintro _ rfl
  rcases (show w = 0 ∨ w = 1 by omega) with rfl | rfl
  · refine V_iload_n hC dX8_ofLayer_17 2 rfl ?_
    refine V_if_neF hC dX8_ofLayer_18 (tgt := 33) (by decide) (by decide) ?_
    refine V_aload_n hC dX8_ofLayer_21 0 rfl ?_
    refine V_get hC dX8_ofLayer_22 inAX8 (mem_at 0 0 rfl rfl) rfl 2 (by decide) q312 rfl (v := .ref (X 2)) rfl ?_
    refine V_get hC dX8_ofLayer_25 inAX5 (mem_at 1 0 rfl rfl) rfl 1 (by decide) q89 rfl (v := .ref (X 3)) rfl ?_
    refine V_iload_n hC dX8_ofLayer_28 1 rfl ?_
    refine V_iald hC dX8_ofLayer_29 (mem_at 2 0 rfl rfl) (vp_in_nI (by omega) (by omega)) (x := i) (nI_clamp (by omega)) ?_
    refine V_goto hC dX8_ofLayer_30 (tgt := 42) (by decide) ?_
    exact V_iret hC hQ hr [0, 1, 2, 3, 4] (u := [[(X 0, .inr (9, [.ref (X 1), .int (nI nb), .ref (X 2), .ref (X 6), .ref (X 8), .ref (X 10), .ref (X 14), .ref (X 18), .int (nI nl), .int du, .ref (X 19), .int mo, .ref (X 20), .int cl]))], [(X 2, .inr (6, [.int (nI n), .ref (X 3), .ref (X 4), .ref (X 5)]))], [(X 3, .inl (G.2.1 0, 8, .inl f))], [(X 4, .inl (G.2.1 0, 8, .inl g))], [(X 5, .inl (G.2.1 0, 8, .inl h))]]) (by decide) rfl (by decide) (by decide) dX8_ofLayer_42 (⟨rfl, rfl⟩)
  · refine V_iload_n hC dX8_ofLayer_17 2 rfl ?_
    refine V_if_neT hC dX8_ofLayer_18 (tgt := 33) (by decide) (by decide) ?_
    refine V_aload_n hC dX8_ofLayer_33 0 rfl ?_
    refine V_get hC dX8_ofLayer_34 inAX8 (mem_at 0 0 rfl rfl) rfl 2 (by decide) q312 rfl (v := .ref (X 2)) rfl ?_
    refine V_get hC dX8_ofLayer_37 inAX5 (mem_at 1 0 rfl rfl) rfl 2 (by decide) q91 rfl (v := .ref (X 4)) rfl ?_
    refine V_iload_n hC dX8_ofLayer_40 1 rfl ?_
    refine V_iald hC dX8_ofLayer_41 (mem_at 3 0 rfl rfl) (vp_in_nI (by omega) (by omega)) (x := i) (nI_clamp (by omega)) ?_
    exact V_iret hC hQ hr [0, 1, 2, 3, 4] (u := [[(X 0, .inr (9, [.ref (X 1), .int (nI nb), .ref (X 2), .ref (X 6), .ref (X 8), .ref (X 10), .ref (X 14), .ref (X 18), .int (nI nl), .int du, .ref (X 19), .int mo, .ref (X 20), .int cl]))], [(X 2, .inr (6, [.int (nI n), .ref (X 3), .ref (X 4), .ref (X 5)]))], [(X 3, .inl (G.2.1 0, 8, .inl f))], [(X 4, .inl (G.2.1 0, 8, .inl g))], [(X 5, .inl (G.2.1 0, 8, .inl h))]]) (by decide) rfl (by decide) (by decide) dX8_ofLayer_42 (⟨rfl, rfl⟩)
set_option maxHeartbeats 4000000 in
set_option maxRecDepth 100000 in
/-- ClinkerWorks.row -/
theorem c_X8z_row (l : Launch) (G : VG) (X : Nat → Nat) (nb nl : Nat) (du mo cl : Int32) (Z : Nat → Nat → Nat) (sz : Nat → SV) (i w : Nat) (hs12 : ∀ j, j < 2 → (sz j).1 ≤ 12) (hi : i < 2) (hw : w ≤ 2147483647) : Mi l G yX8_row cX8_row 3 .int 2 42 0 0 [.ref (X 0), .int (nI i), .int (nI w)] [[(X 0, .inr (9, [.ref (X 1), .int (nI nb), .ref (X 2), .ref (X 6), .ref (X 8), .ref (X 10), .ref (X 14), .ref (X 18), .int (nI nl), .int du, .ref (X 19), .int mo, .ref (X 20), .int cl]))], [(X 19, .inl (G.2.1 6, 2, .inr (.inr (.inr (.inr (refA 2 Z))))))], famW 2 (fun ι => slP G (Z ι) (sz ι))] (fun r u => r = siAt (sz i).2.2 (sz i).1 (nI w) ∧ u = [[(X 0, .inr (9, [.ref (X 1), .int (nI nb), .ref (X 2), .ref (X 6), .ref (X 8), .ref (X 10), .ref (X 14), .ref (X 18), .int (nI nl), .int du, .ref (X 19), .int mo, .ref (X 20), .int cl]))], [(X 19, .inl (G.2.1 6, 2, .inr (.inr (.inr (.inr (refA 2 Z))))))], famW 2 (fun ι => slP G (Z ι) (sz ι))]) := by
  refine Mi_of (by decide) (Nat.le_of_ble_eq_true rfl) (fun pP eE sS mM aA bB tT cC AA QQ hC hr hnm hQ => ?_)
  refine V_iload_n hC dX8_row_0 1 rfl ?_
  refine V_iconst hC dX8_row_1 (v := 2) (by decide) ?_
  refine V_callv hC (V_runS hC (rest := []) [.int (nI i), .int 2] (c_X8z_needIndex l G (nI i) 2 (ixB_in (N := 2) hi)) [] rfl (by decide) q480 q481 q43 q482 ⟨by decide, by decide, rfl⟩ ⟨by decide, by decide⟩ rfl (Nat.le_of_ble_eq_true rfl) ⟨by decide, by decide⟩ dX8_row_2) (is := []) rfl [0, 1, 2] (rs := [[(X 0, .inr (9, [.ref (X 1), .int (nI nb), .ref (X 2), .ref (X 6), .ref (X 8), .ref (X 10), .ref (X 14), .ref (X 18), .int (nI nl), .int du, .ref (X 19), .int mo, .ref (X 20), .int cl]))], [(X 19, .inl (G.2.1 6, 2, .inr (.inr (.inr (.inr (refA 2 Z))))))], famW 2 (fun ι => slP G (Z ι) (sz ι))]) rfl (by decide) (by decide) ?_
  rintro _ rfl
  refine V_iload_n hC dX8_row_5 2 rfl ?_
  refine V_iconst hC dX8_row_6 (v := 0) (by decide) ?_
  refine V_ldcw hC dX8_row_7 q607 ?_
  refine V_callv hC (V_runS hC (rest := []) [.int (nI w), .int 0, .int 2147483647] (c_X8z_needArgument l G (nI w) 0 2147483647 (inR_nI (M := 2147483647) hw)) [] rfl (by decide) q390 q391 q43 q392 ⟨by decide, by decide, rfl⟩ ⟨by decide, by decide⟩ rfl (Nat.le_of_ble_eq_true rfl) ⟨by decide, by decide⟩ dX8_row_10) (is := []) rfl [0, 1, 2] (rs := [[(X 0, .inr (9, [.ref (X 1), .int (nI nb), .ref (X 2), .ref (X 6), .ref (X 8), .ref (X 10), .ref (X 14), .ref (X 18), .int (nI nl), .int du, .ref (X 19), .int mo, .ref (X 20), .int cl]))], [(X 19, .inl (G.2.1 6, 2, .inr (.inr (.inr (.inr (refA 2 Z))))))], famW 2 (fun ι => slP G (Z ι) (sz ι))]) rfl (by decide) (by decide) ?_
  rintro _ rfl
  refine V_aload_n hC dX8_row_13 0 rfl ?_
  refine V_get hC dX8_row_14 inAX8 (mem_at 0 0 rfl rfl) rfl 10 (by decide) q320 rfl (v := .ref (X 19)) rfl ?_
  refine V_iload_n hC dX8_row_17 1 rfl ?_
  refine V_aald hC dX8_row_18 6 rfl (mem_at 1 0 rfl rfl) (vp_in_nI (by omega) (by omega)) (x := i) (nI_clamp (by omega)) (b := (Z i) 0) (refA_at (by omega)) ?_
  refine V_iload_n hC dX8_row_19 2 rfl ?_
  refine V_sub [2, 0, 1] (by decide) (u := [famW 2 (fun ι => slP G (Z ι) (sz ι)), [(X 0, .inr (9, [.ref (X 1), .int (nI nb), .ref (X 2), .ref (X 6), .ref (X 8), .ref (X 10), .ref (X 14), .ref (X 18), .int (nI nl), .int du, .ref (X 19), .int mo, .ref (X 20), .int cl]))], [(X 19, .inl (G.2.1 6, 2, .inr (.inr (.inr (.inr (refA 2 Z))))))]]) rfl ?_
  refine V_open (i := i) (by omega) ?_
  refine V_calli hC (V_runV hC (rest := []) [.int (nI w)] (k_X6_lotAt l G (Z i) (sz i) (nI w) (hs12 i hi)) [0] rfl (by decide) q608 q609 q610 q51 q611 ⟨by decide, by decide, rfl⟩ ⟨by decide, by decide⟩ (ci := 7) rfl (mem_at 0 0 rfl rfl) rfl (Nat.le_of_ble_eq_true rfl) ⟨by decide, by decide⟩ dX8_row_20) (is := [0]) rfl [1, 2, 3] (rs := [famX 2 i (fun ι => slP G (Z ι) (sz ι)), [(X 0, .inr (9, [.ref (X 1), .int (nI nb), .ref (X 2), .ref (X 6), .ref (X 8), .ref (X 10), .ref (X 14), .ref (X 18), .int (nI nl), .int du, .ref (X 19), .int mo, .ref (X 20), .int cl]))], [(X 19, .inl (G.2.1 6, 2, .inr (.inr (.inr (.inr (refA 2 Z))))))]]) rfl (by decide) (by decide) ?_
  rintro _ _ ⟨rfl, rfl⟩
  refine V_close (i := i) (g' := fun ι => slP G (Z ι) (sz ι)) (by omega) (rfl) (fun _ _ _ => rfl) ?_
  exact V_iret hC hQ hr [1, 2, 0] (u := [[(X 0, .inr (9, [.ref (X 1), .int (nI nb), .ref (X 2), .ref (X 6), .ref (X 8), .ref (X 10), .ref (X 14), .ref (X 18), .int (nI nl), .int du, .ref (X 19), .int mo, .ref (X 20), .int cl]))], [(X 19, .inl (G.2.1 6, 2, .inr (.inr (.inr (.inr (refA 2 Z))))))], famW 2 (fun ι => slP G (Z ι) (sz ι))]) (by decide) rfl (by decide) (by decide) dX8_row_23 (⟨rfl, rfl⟩)
