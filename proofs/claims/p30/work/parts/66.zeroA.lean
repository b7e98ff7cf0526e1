/-! ===== questions, where nothing is thrown ===== -/
set_option maxHeartbeats 4000000 in
set_option maxRecDepth 100000 in
/-- ClinkerWorks.needIndex -/
theorem c_X8z_needIndex (l : Launch) (G : VG) (x n : Int32) (hz : ixB x n = 1) : Mv l G yX8_needIndex cX8_needIndex 2 1 21 0 0 [.int x, .int n] [] (fun u => u = []) := by
  refine Mv_of (by decide) (Nat.le_of_ble_eq_true rfl) (fun pP eE sS mM aA bB tT cC AA QQ hC hr hnm hQ => ?_)
  refine V_iload_n hC dX8_needIndex_0 0 rfl ?_
  refine V_iload_n hC dX8_needIndex_1 1 rfl ?_
  refine V_calli hC (V_runS hC (rest := []) [.int x, .int n] (c_X8_isIndex l G x n) [] rfl (by decide) q434 q435 q20 q436 ⟨by decide, by decide, rfl⟩ ⟨by decide, by decide⟩ rfl (Nat.le_of_ble_eq_true rfl) ⟨by decide, by decide⟩ dX8_needIndex_2) (is := []) rfl [] (rs := []) rfl (by decide) (by decide) ?_
  rintro _ _ ⟨rfl, rfl⟩
  refine V_if_ne hC dX8_needIndex_5 (tgt := 19) (by decide) (fun h1 => ?_) (fun h1 => ?_)
  · exact V_vret hC hQ hr [] (u := []) (by decide) rfl (by decide) (by decide) dX8_needIndex_19 (rfl)
  · exact absurd ((show ixB x n = 0 from by first | exact h1 | exact Decidable.not_not.mp h1).symm.trans hz) (by decide)
set_option maxHeartbeats 4000000 in
set_option maxRecDepth 100000 in
/-- ClinkerWorks.needArgument -/
theorem c_X8z_needArgument (l : Launch) (G : VG) (x a b : Int32) (hz : a ≤ x ∧ x ≤ b) : Mv l G yX8_needArgument cX8_needArgument 3 0 0 0 0 [.int x, .int a, .int b] [] (fun u => u = []) := by
  refine Mv_of (by decide) (Nat.le_of_ble_eq_true rfl) (fun pP eE sS mM aA bB tT cC AA QQ hC hr hnm hQ => ?_)
  refine V_iload_n hC dX8_needArgument_0 0 rfl ?_
  refine V_iload_n hC dX8_needArgument_1 1 rfl ?_
  refine V_icmp_lt hC dX8_needArgument_2 (tgt := 10) (by decide) (fun h1 => ?_) (fun h1 => ?_)
  · exact absurd hz.1 (i32_nle h1)
  · refine V_iload_n hC dX8_needArgument_5 0 rfl ?_
    refine V_iload_n hC dX8_needArgument_6 2 rfl ?_
    refine V_icmp_le hC dX8_needArgument_7 (tgt := 21) (by decide) (fun h2 => ?_) (fun h2 => ?_)
    · exact V_vret hC hQ hr [] (u := []) (by decide) rfl (by decide) (by decide) dX8_needArgument_21 (rfl)
    · exact absurd hz.2 h2
set_option maxHeartbeats 4000000 in
set_option maxRecDepth 100000 in
/-- ClinkerWorks.ofBlock -/
theorem c_X8z_ofBlock (l : Launch) (G : VG) (X : Nat → Nat) (nb nl : Nat) (du mo cl : Int32) (B : Nat → Nat → Nat) (bz : Nat → BV) (i w : Nat) (hnb : nb ≤ 6) (hk01 : ∀ j, j < 6 → (bz j).2.1 = 0 ∨ (bz j).2.1 = 1) (hi : i < nb) (hw : w ≤ 5) : Mi l G yX8_ofBlock cX8_ofBlock 3 .int 2 42 0 0 [.ref (X 0), .int (nI i), .int (nI w)] [[(X 0, .inr (9, [.ref (X 1), .int (nI nb), .ref (X 2), .ref (X 6), .ref (X 8), .ref (X 10), .ref (X 14), .ref (X 18), .int (nI nl), .int du, .ref (X 19), .int mo, .ref (X 20), .int cl]))], [(X 1, .inl (G.2.1 3, 6, .inr (.inr (.inr (.inr (refA 6 B))))))], famW 6 (fun ι => bkP G (B ι) (bz ι))] (fun r u => r = qBlock (bz i) w ∧ u = [[(X 0, .inr (9, [.ref (X 1), .int (nI nb), .ref (X 2), .ref (X 6), .ref (X 8), .ref (X 10), .ref (X 14), .ref (X 18), .int (nI nl), .int du, .ref (X 19), .int mo, .ref (X 20), .int cl]))], [(X 1, .inl (G.2.1 3, 6, .inr (.inr (.inr (.inr (refA 6 B))))))], famW 6 (fun ι => bkP G (B ι) (bz ι))]) := by
  refine Mi_of (by decide) (Nat.le_of_ble_eq_true rfl) (fun pP eE sS mM aA bB tT cC AA QQ hC hr hnm hQ => ?_)
  refine V_iload_n hC dX8_ofBlock_0 1 rfl ?_
  refine V_aload_n hC dX8_ofBlock_1 0 rfl ?_
  refine V_get hC dX8_ofBlock_2 inAX8 (mem_at 0 0 rfl rfl) rfl 1 (by decide) q273 rfl (v := .int (nI nb)) rfl ?_
  refine V_callv hC (V_runS hC (rest := []) [.int (nI i), .int (nI nb)] (c_X8z_needIndex l G (nI i) (nI nb) (ixB_in (N := nb) hi)) [] rfl (by decide) q542 q543 q20 q544 ⟨by decide, by decide, rfl⟩ ⟨by decide, by decide⟩ rfl (Nat.le_of_ble_eq_true rfl) ⟨by decide, by decide⟩ dX8_ofBlock_5) (is := []) rfl [0, 1, 2] (rs := [[(X 0, .inr (9, [.ref (X 1), .int (nI nb), .ref (X 2), .ref (X 6), .ref (X 8), .ref (X 10), .ref (X 14), .ref (X 18), .int (nI nl), .int du, .ref (X 19), .int mo, .ref (X 20), .int cl]))], [(X 1, .inl (G.2.1 3, 6, .inr (.inr (.inr (.inr (refA 6 B))))))], famW 6 (fun ι => bkP G (B ι) (bz ι))]) rfl (by decide) (by decide) ?_
  rintro _ rfl
  refine V_iload_n hC dX8_ofBlock_8 2 rfl ?_
  refine V_iconst hC dX8_ofBlock_9 (v := 0) (by decide) ?_
  refine V_iconst hC dX8_ofBlock_10 (v := 5) (by decide) ?_
  refine V_callv hC (V_runS hC (rest := []) [.int (nI w), .int 0, .int 5] (c_X8z_needArgument l G (nI w) 0 5 (inR_nI (M := 5) hw)) [] rfl (by decide) q319 q320 q20 q321 ⟨by decide, by decide, rfl⟩ ⟨by decide, by decide⟩ rfl (Nat.le_of_ble_eq_true rfl) ⟨by decide, by decide⟩ dX8_ofBlock_11) (is := []) rfl [0, 1, 2] (rs := [[(X 0, .inr (9, [.ref (X 1), .int (nI nb), .ref (X 2), .ref (X 6), .ref (X 8), .ref (X 10), .ref (X 14), .ref (X 18), .int (nI nl), .int du, .ref (X 19), .int mo, .ref (X 20), .int cl]))], [(X 1, .inl (G.2.1 3, 6, .inr (.inr (.inr (.inr (refA 6 B))))))], famW 6 (fun ι => bkP G (B ι) (bz ι))]) rfl (by decide) (by decide) ?_
  rintro _ rfl
  rcases (show w = 0 ∨ w = 1 ∨ w = 2 ∨ w = 3 ∨ w = 4 ∨ w = 5 by omega) with rfl | rfl | rfl | rfl | rfl | rfl
  · refine V_iload_n hC dX8_ofBlock_14 2 rfl ?_
    refine V_if_neF hC dX8_ofBlock_15 (tgt := 28) (by decide) (by decide) ?_
    refine V_aload_n hC dX8_ofBlock_18 0 rfl ?_
    refine V_get hC dX8_ofBlock_19 inAX8 (mem_at 0 0 rfl rfl) rfl 0 (by decide) q272 rfl (v := .ref (X 1)) rfl ?_
    refine V_iload_n hC dX8_ofBlock_22 1 rfl ?_
    refine V_aald hC dX8_ofBlock_23 3 rfl (mem_at 1 0 rfl rfl) (vp_in_nI (by omega) (by omega)) (x := i) (nI_clamp (by omega)) (b := (B i) 0) (refA_at (by omega)) ?_
    refine V_get hC dX8_ofBlock_24 inAX0 (mem_fam 2 0 rfl i (by first | assumption | omega) rfl) rfl 0 (by decide) q210 rfl (v := .int ((bz i).1)) rfl ?_
    exact V_iret hC hQ hr [0, 1, 2] (u := [[(X 0, .inr (9, [.ref (X 1), .int (nI nb), .ref (X 2), .ref (X 6), .ref (X 8), .ref (X 10), .ref (X 14), .ref (X 18), .int (nI nl), .int du, .ref (X 19), .int mo, .ref (X 20), .int cl]))], [(X 1, .inl (G.2.1 3, 6, .inr (.inr (.inr (.inr (refA 6 B))))))], famW 6 (fun ι => bkP G (B ι) (bz ι))]) (by decide) rfl (by decide) (by decide) dX8_ofBlock_27 (⟨rfl, rfl⟩)
  · refine V_iload_n hC dX8_ofBlock_14 2 rfl ?_
    refine V_if_neT hC dX8_ofBlock_15 (tgt := 28) (by decide) (by decide) ?_
    refine V_iload_n hC dX8_ofBlock_28 2 rfl ?_
    refine V_iconst hC dX8_ofBlock_29 (v := 1) (by decide) ?_
    refine V_icmp_neF hC dX8_ofBlock_30 (tgt := 46) (by decide) (by decide) ?_
    refine V_aload_n hC dX8_ofBlock_33 0 rfl ?_
    refine V_get hC dX8_ofBlock_34 inAX8 (mem_at 0 0 rfl rfl) rfl 0 (by decide) q272 rfl (v := .ref (X 1)) rfl ?_
    refine V_iload_n hC dX8_ofBlock_37 1 rfl ?_
    refine V_aald hC dX8_ofBlock_38 3 rfl (mem_at 1 0 rfl rfl) (vp_in_nI (by omega) (by omega)) (x := i) (nI_clamp (by omega)) (b := (B i) 0) (refA_at (by omega)) ?_
    refine V_get hC dX8_ofBlock_39 inAX0 (mem_fam 2 0 rfl i (by first | assumption | omega) rfl) rfl 1 (by decide) q212 rfl (v := .int ((bz i).2.1)) rfl ?_
    refine V_calli hC (V_runS hC (rest := []) [.int ((bz i).2.1)] (c_X8_asNumber l G ((bz i).2.1) (hk01 i (by omega))) [] rfl (by decide) q584 q585 q20 q586 ⟨by decide, by decide, rfl⟩ ⟨by decide, by decide⟩ rfl (Nat.le_of_ble_eq_true rfl) ⟨by decide, by decide⟩ dX8_ofBlock_42) (is := []) rfl [0, 1, 2] (rs := [[(X 0, .inr (9, [.ref (X 1), .int (nI nb), .ref (X 2), .ref (X 6), .ref (X 8), .ref (X 10), .ref (X 14), .ref (X 18), .int (nI nl), .int du, .ref (X 19), .int mo, .ref (X 20), .int cl]))], [(X 1, .inl (G.2.1 3, 6, .inr (.inr (.inr (.inr (refA 6 B))))))], famW 6 (fun ι => bkP G (B ι) (bz ι))]) rfl (by decide) (by decide) ?_
    rintro _ _ ⟨rfl, rfl⟩
    exact V_iret hC hQ hr [0, 1, 2] (u := [[(X 0, .inr (9, [.ref (X 1), .int (nI nb), .ref (X 2), .ref (X 6), .ref (X 8), .ref (X 10), .ref (X 14), .ref (X 18), .int (nI nl), .int du, .ref (X 19), .int mo, .ref (X 20), .int cl]))], [(X 1, .inl (G.2.1 3, 6, .inr (.inr (.inr (.inr (refA 6 B))))))], famW 6 (fun ι => bkP G (B ι) (bz ι))]) (by decide) rfl (by decide) (by decide) dX8_ofBlock_45 (⟨rfl, rfl⟩)
  · refine V_iload_n hC dX8_ofBlock_14 2 rfl ?_
    refine V_if_neT hC dX8_ofBlock_15 (tgt := 28) (by decide) (by decide) ?_
    refine V_iload_n hC dX8_ofBlock_28 2 rfl ?_
    refine V_iconst hC dX8_ofBlock_29 (v := 1) (by decide) ?_
    refine V_icmp_neT hC dX8_ofBlock_30 (tgt := 46) (by decide) (by decide) ?_
    refine V_aload_n hC dX8_ofBlock_46 0 rfl ?_
    refine V_get hC dX8_ofBlock_47 inAX8 (mem_at 0 0 rfl rfl) rfl 0 (by decide) q272 rfl (v := .ref (X 1)) rfl ?_
    refine V_iload_n hC dX8_ofBlock_50 1 rfl ?_
    refine V_aald hC dX8_ofBlock_51 3 rfl (mem_at 1 0 rfl rfl) (vp_in_nI (by omega) (by omega)) (x := i) (nI_clamp (by omega)) (b := (B i) 0) (refA_at (by omega)) ?_
    refine V_iload_n hC dX8_ofBlock_52 2 rfl ?_
    refine V_iconst hC dX8_ofBlock_53 (v := 2) (by decide) ?_
    refine V_isub hC dX8_ofBlock_54 ?_
    refine V_eqi (y := 0) (by decide) ?_
    refine V_sub [2, 0, 1] (by decide) (u := [famW 6 (fun ι => bkP G (B ι) (bz ι)), [(X 0, .inr (9, [.ref (X 1), .int (nI nb), .ref (X 2), .ref (X 6), .ref (X 8), .ref (X 10), .ref (X 14), .ref (X 18), .int (nI nl), .int du, .ref (X 19), .int mo, .ref (X 20), .int cl]))], [(X 1, .inl (G.2.1 3, 6, .inr (.inr (.inr (.inr (refA 6 B))))))]]) rfl ?_
    refine V_open (i := i) (by omega) ?_
    refine V_calli hC (V_runV hC (rest := []) [.int 0] (k_X0_believed l G (B i) (bz i) 0 0 (by decide) (by decide)) [0] rfl (by decide) q644 q442 q443 q26 q444 ⟨by decide, by decide, rfl⟩ ⟨by decide, by decide⟩ (ci := 1) rfl (mem_at 0 0 rfl rfl) rfl (Nat.le_of_ble_eq_true rfl) ⟨by decide, by decide⟩ dX8_ofBlock_55) (is := [0]) rfl [1, 2, 3] (rs := [famX 6 i (fun ι => bkP G (B ι) (bz ι)), [(X 0, .inr (9, [.ref (X 1), .int (nI nb), .ref (X 2), .ref (X 6), .ref (X 8), .ref (X 10), .ref (X 14), .ref (X 18), .int (nI nl), .int du, .ref (X 19), .int mo, .ref (X 20), .int cl]))], [(X 1, .inl (G.2.1 3, 6, .inr (.inr (.inr (.inr (refA 6 B))))))]]) rfl (by decide) (by decide) ?_
    rintro _ _ ⟨rfl, rfl⟩
    refine V_close (i := i) (g' := fun ι => bkP G (B ι) (bz ι)) (by omega) (rfl) (fun _ _ _ => rfl) ?_
    exact V_iret hC hQ hr [1, 2, 0] (u := [[(X 0, .inr (9, [.ref (X 1), .int (nI nb), .ref (X 2), .ref (X 6), .ref (X 8), .ref (X 10), .ref (X 14), .ref (X 18), .int (nI nl), .int du, .ref (X 19), .int mo, .ref (X 20), .int cl]))], [(X 1, .inl (G.2.1 3, 6, .inr (.inr (.inr (.inr (refA 6 B))))))], famW 6 (fun ι => bkP G (B ι) (bz ι))]) (by decide) rfl (by decide) (by decide) dX8_ofBlock_58 (⟨rfl, rfl⟩)
  · refine V_iload_n hC dX8_ofBlock_14 2 rfl ?_
    refine V_if_neT hC dX8_ofBlock_15 (tgt := 28) (by decide) (by decide) ?_
    refine V_iload_n hC dX8_ofBlock_28 2 rfl ?_
    refine V_iconst hC dX8_ofBlock_29 (v := 1) (by decide) ?_
    refine V_icmp_neT hC dX8_ofBlock_30 (tgt := 46) (by decide) (by decide) ?_
    refine V_aload_n hC dX8_ofBlock_46 0 rfl ?_
    refine V_get hC dX8_ofBlock_47 inAX8 (mem_at 0 0 rfl rfl) rfl 0 (by decide) q272 rfl (v := .ref (X 1)) rfl ?_
    refine V_iload_n hC dX8_ofBlock_50 1 rfl ?_
    refine V_aald hC dX8_ofBlock_51 3 rfl (mem_at 1 0 rfl rfl) (vp_in_nI (by omega) (by omega)) (x := i) (nI_clamp (by omega)) (b := (B i) 0) (refA_at (by omega)) ?_
    refine V_iload_n hC dX8_ofBlock_52 2 rfl ?_
    refine V_iconst hC dX8_ofBlock_53 (v := 2) (by decide) ?_
    refine V_isub hC dX8_ofBlock_54 ?_
    refine V_eqi (y := 1) (by decide) ?_
    refine V_sub [2, 0, 1] (by decide) (u := [famW 6 (fun ι => bkP G (B ι) (bz ι)), [(X 0, .inr (9, [.ref (X 1), .int (nI nb), .ref (X 2), .ref (X 6), .ref (X 8), .ref (X 10), .ref (X 14), .ref (X 18), .int (nI nl), .int du, .ref (X 19), .int mo, .ref (X 20), .int cl]))], [(X 1, .inl (G.2.1 3, 6, .inr (.inr (.inr (.inr (refA 6 B))))))]]) rfl ?_
    refine V_open (i := i) (by omega) ?_
    refine V_calli hC (V_runV hC (rest := []) [.int 1] (k_X0_believed l G (B i) (bz i) 1 1 (by decide) (by decide)) [0] rfl (by decide) q644 q442 q443 q26 q444 ⟨by decide, by decide, rfl⟩ ⟨by decide, by decide⟩ (ci := 1) rfl (mem_at 0 0 rfl rfl) rfl (Nat.le_of_ble_eq_true rfl) ⟨by decide, by decide⟩ dX8_ofBlock_55) (is := [0]) rfl [1, 2, 3] (rs := [famX 6 i (fun ι => bkP G (B ι) (bz ι)), [(X 0, .inr (9, [.ref (X 1), .int (nI nb), .ref (X 2), .ref (X 6), .ref (X 8), .ref (X 10), .ref (X 14), .ref (X 18), .int (nI nl), .int du, .ref (X 19), .int mo, .ref (X 20), .int cl]))], [(X 1, .inl (G.2.1 3, 6, .inr (.inr (.inr (.inr (refA 6 B))))))]]) rfl (by decide) (by decide) ?_
    rintro _ _ ⟨rfl, rfl⟩
    refine V_close (i := i) (g' := fun ι => bkP G (B ι) (bz ι)) (by omega) (rfl) (fun _ _ _ => rfl) ?_
    exact V_iret hC hQ hr [1, 2, 0] (u := [[(X 0, .inr (9, [.ref (X 1), .int (nI nb), .ref (X 2), .ref (X 6), .ref (X 8), .ref (X 10), .ref (X 14), .ref (X 18), .int (nI nl), .int du, .ref (X 19), .int mo, .ref (X 20), .int cl]))], [(X 1, .inl (G.2.1 3, 6, .inr (.inr (.inr (.inr (refA 6 B))))))], famW 6 (fun ι => bkP G (B ι) (bz ι))]) (by decide) rfl (by decide) (by decide) dX8_ofBlock_58 (⟨rfl, rfl⟩)
  · refine V_iload_n hC dX8_ofBlock_14 2 rfl ?_
    refine V_if_neT hC dX8_ofBlock_15 (tgt := 28) (by decide) (by decide) ?_
    refine V_iload_n hC dX8_ofBlock_28 2 rfl ?_
    refine V_iconst hC dX8_ofBlock_29 (v := 1) (by decide) ?_
    refine V_icmp_neT hC dX8_ofBlock_30 (tgt := 46) (by decide) (by decide) ?_
    refine V_aload_n hC dX8_ofBlock_46 0 rfl ?_
    refine V_get hC dX8_ofBlock_47 inAX8 (mem_at 0 0 rfl rfl) rfl 0 (by decide) q272 rfl (v := .ref (X 1)) rfl ?_
    refine V_iload_n hC dX8_ofBlock_50 1 rfl ?_
    refine V_aald hC dX8_ofBlock_51 3 rfl (mem_at 1 0 rfl rfl) (vp_in_nI (by omega) (by omega)) (x := i) (nI_clamp (by omega)) (b := (B i) 0) (refA_at (by omega)) ?_
    refine V_iload_n hC dX8_ofBlock_52 2 rfl ?_
    refine V_iconst hC dX8_ofBlock_53 (v := 2) (by decide) ?_
    refine V_isub hC dX8_ofBlock_54 ?_
    refine V_eqi (y := 2) (by decide) ?_
    refine V_sub [2, 0, 1] (by decide) (u := [famW 6 (fun ι => bkP G (B ι) (bz ι)), [(X 0, .inr (9, [.ref (X 1), .int (nI nb), .ref (X 2), .ref (X 6), .ref (X 8), .ref (X 10), .ref (X 14), .ref (X 18), .int (nI nl), .int du, .ref (X 19), .int mo, .ref (X 20), .int cl]))], [(X 1, .inl (G.2.1 3, 6, .inr (.inr (.inr (.inr (refA 6 B))))))]]) rfl ?_
    refine V_open (i := i) (by omega) ?_
    refine V_calli hC (V_runV hC (rest := []) [.int 2] (k_X0_believed l G (B i) (bz i) 2 2 (by decide) (by decide)) [0] rfl (by decide) q644 q442 q443 q26 q444 ⟨by decide, by decide, rfl⟩ ⟨by decide, by decide⟩ (ci := 1) rfl (mem_at 0 0 rfl rfl) rfl (Nat.le_of_ble_eq_true rfl) ⟨by decide, by decide⟩ dX8_ofBlock_55) (is := [0]) rfl [1, 2, 3] (rs := [famX 6 i (fun ι => bkP G (B ι) (bz ι)), [(X 0, .inr (9, [.ref (X 1), .int (nI nb), .ref (X 2), .ref (X 6), .ref (X 8), .ref (X 10), .ref (X 14), .ref (X 18), .int (nI nl), .int du, .ref (X 19), .int mo, .ref (X 20), .int cl]))], [(X 1, .inl (G.2.1 3, 6, .inr (.inr (.inr (.inr (refA 6 B))))))]]) rfl (by decide) (by decide) ?_
    rintro _ _ ⟨rfl, rfl⟩
    refine V_close (i := i) (g' := fun ι => bkP G (B ι) (bz ι)) (by omega) (rfl) (fun _ _ _ => rfl) ?_
    exact V_iret hC hQ hr [1, 2, 0] (u := [[(X 0, .inr (9, [.ref (X 1), .int (nI nb), .ref (X 2), .ref (X 6), .ref (X 8), .ref (X 10), .ref (X 14), .ref (X 18), .int (nI nl), .int du, .ref (X 19), .int mo, .ref (X 20), .int cl]))], [(X 1, .inl (G.2.1 3, 6, .inr (.inr (.inr (.inr (refA 6 B))))))], famW 6 (fun ι => bkP G (B ι) (bz ι))]) (by decide) rfl (by decide) (by decide) dX8_ofBlock_58 (⟨rfl, rfl⟩)
  · refine V_iload_n hC dX8_ofBlock_14 2 rfl ?_
    refine V_if_neT hC dX8_ofBlock_15 (tgt := 28) (by decide) (by decide) ?_
    refine V_iload_n hC dX8_ofBlock_28 2 rfl ?_
    refine V_iconst hC dX8_ofBlock_29 (v := 1) (by decide) ?_
    refine V_icmp_neT hC dX8_ofBlock_30 (tgt := 46) (by decide) (by decide) ?_
    refine V_aload_n hC dX8_ofBlock_46 0 rfl ?_
    refine V_get hC dX8_ofBlock_47 inAX8 (mem_at 0 0 rfl rfl) rfl 0 (by decide) q272 rfl (v := .ref (X 1)) rfl ?_
    refine V_iload_n hC dX8_ofBlock_50 1 rfl ?_
    refine V_aald hC dX8_ofBlock_51 3 rfl (mem_at 1 0 rfl rfl) (vp_in_nI (by omega) (by omega)) (x := i) (nI_clamp (by omega)) (b := (B i) 0) (refA_at (by omega)) ?_
    refine V_iload_n hC dX8_ofBlock_52 2 rfl ?_
    refine V_iconst hC dX8_ofBlock_53 (v := 2) (by decide) ?_
    refine V_isub hC dX8_ofBlock_54 ?_
    refine V_eqi (y := 3) (by decide) ?_
    refine V_sub [2, 0, 1] (by decide) (u := [famW 6 (fun ι => bkP G (B ι) (bz ι)), [(X 0, .inr (9, [.ref (X 1), .int (nI nb), .ref (X 2), .ref (X 6), .ref (X 8), .ref (X 10), .ref (X 14), .ref (X 18), .int (nI nl), .int du, .ref (X 19), .int mo, .ref (X 20), .int cl]))], [(X 1, .inl (G.2.1 3, 6, .inr (.inr (.inr (.inr (refA 6 B))))))]]) rfl ?_
    refine V_open (i := i) (by omega) ?_
    refine V_calli hC (V_runV hC (rest := []) [.int 3] (k_X0_believed l G (B i) (bz i) 3 3 (by decide) (by decide)) [0] rfl (by decide) q644 q442 q443 q26 q444 ⟨by decide, by decide, rfl⟩ ⟨by decide, by decide⟩ (ci := 1) rfl (mem_at 0 0 rfl rfl) rfl (Nat.le_of_ble_eq_true rfl) ⟨by decide, by decide⟩ dX8_ofBlock_55) (is := [0]) rfl [1, 2, 3] (rs := [famX 6 i (fun ι => bkP G (B ι) (bz ι)), [(X 0, .inr (9, [.ref (X 1), .int (nI nb), .ref (X 2), .ref (X 6), .ref (X 8), .ref (X 10), .ref (X 14), .ref (X 18), .int (nI nl), .int du, .ref (X 19), .int mo, .ref (X 20), .int cl]))], [(X 1, .inl (G.2.1 3, 6, .inr (.inr (.inr (.inr (refA 6 B))))))]]) rfl (by decide) (by decide) ?_
    rintro _ _ ⟨rfl, rfl⟩
    refine V_close (i := i) (g' := fun ι => bkP G (B ι) (bz ι)) (by omega) (rfl) (fun _ _ _ => rfl) ?_
    exact V_iret hC hQ hr [1, 2, 0] (u := [[(X 0, .inr (9, [.ref (X 1), .int (nI nb), .ref (X 2), .ref (X 6), .ref (X 8), .ref (X 10), .ref (X 14), .ref (X 18), .int (nI nl), .int du, .ref (X 19), .int mo, .ref (X 20), .int cl]))], [(X 1, .inl (G.2.1 3, 6, .inr (.inr (.inr (.inr (refA 6 B))))))], famW 6 (fun ι => bkP G (B ι) (bz ι))]) (by decide) rfl (by decide) (by decide) dX8_ofBlock_58 (⟨rfl, rfl⟩)
set_option maxHeartbeats 4000000 in
set_option maxRecDepth 100000 in
/-- ClinkerWorks.ofLayer -/
theorem c_X8z_ofLayer (l : Launch) (G : VG) (X : Nat → Nat) (nb nl : Nat) (du mo cl : Int32) (n : Nat) (f g h : Nat → Int32) (i w : Nat) (hn : n ≤ 8) (hi : i < n) (hw : w ≤ 1) : Mi l G yX8_ofLayer cX8_ofLayer 3 .int 2 42 0 0 [.ref (X 0), .int (nI i), .int (nI w)] [[(X 0, .inr (9, [.ref (X 1), .int (nI nb), .ref (X 2), .ref (X 6), .ref (X 8), .ref (X 10), .ref (X 14), .ref (X 18), .int (nI nl), .int du, .ref (X 19), .int mo, .ref (X 20), .int cl]))], [(X 2, .inr (6, [.int (nI n), .ref (X 3), .ref (X 4), .ref (X 5)]))], [(X 3, .inl (G.2.1 0, 8, .inl f))], [(X 4, .inl (G.2.1 0, 8, .inl g))], [(X 5, .inl (G.2.1 0, 8, .inl h))]] (fun r u => r = (if w = 0 then f i else g i) ∧ u = [[(X 0, .inr (9, [.ref (X 1), .int (nI nb), .ref (X 2), .ref (X 6), .ref (X 8), .ref (X 10), .ref (X 14), .ref (X 18), .int (nI nl), .int du, .ref (X 19), .int mo, .ref (X 20), .int cl]))], [(X 2, .inr (6, [.int (nI n), .ref (X 3), .ref (X 4), .ref (X 5)]))], [(X 3, .inl (G.2.1 0, 8, .inl f))], [(X 4, .inl (G.2.1 0, 8, .inl g))], [(X 5, .inl (G.2.1 0, 8, .inl h))]]) := by
  refine Mi_of (by decide) (Nat.le_of_ble_eq_true rfl) (fun pP eE sS mM aA bB tT cC AA QQ hC hr hnm hQ => ?_)
  refine V_iload_n hC dX8_ofLayer_0 1 rfl ?_
  refine V_aload_n hC dX8_ofLayer_1 0 rfl ?_
  refine V_get hC dX8_ofLayer_2 inAX8 (mem_at 0 0 rfl rfl) rfl 2 (by decide) q274 rfl (v := .ref (X 2)) rfl ?_
  refine V_get hC dX8_ofLayer_5 inAX5 (mem_at 1 0 rfl rfl) rfl 0 (by decide) q54 rfl (v := .int (nI n)) rfl ?_
  refine V_callv hC (V_runS hC (rest := []) [.int (nI i), .int (nI n)] (c_X8z_needIndex l G (nI i) (nI n) (ixB_in (N := n) hi)) [] rfl (by decide) q542 q543 q20 q544 ⟨by decide, by decide, rfl⟩ ⟨by decide, by decide⟩ rfl (Nat.le_of_ble_eq_true rfl) ⟨by decide, by decide⟩ dX8_ofLayer_8) (is := []) rfl [0, 1, 2, 3, 4] (rs := [[(X 0, .inr (9, [.ref (X 1), .int (nI nb), .ref (X 2), .ref (X 6), .ref (X 8), .ref (X 10), .ref (X 14), .ref (X 18), .int (nI nl), .int du, .ref (X 19), .int mo, .ref (X 20), .int cl]))], [(X 2, .inr (6, [.int (nI n), .ref (X 3), .ref (X 4), .ref (X 5)]))], [(X 3, .inl (G.2.1 0, 8, .inl f))], [(X 4, .inl (G.2.1 0, 8, .inl g))], [(X 5, .inl (G.2.1 0, 8, .inl h))]]) rfl (by decide) (by decide) ?_
  rintro _ rfl
  refine V_iload_n hC dX8_ofLayer_11 2 rfl ?_
  refine V_iconst hC dX8_ofLayer_12 (v := 0) (by decide) ?_
  refine V_iconst hC dX8_ofLayer_13 (v := 1) (by decide) ?_
  refine V_callv hC (V_runS hC (rest := []) [.int (nI w), .int 0, .int 1] (c_X8z_needArgument l G (nI w) 0 1 (inR_nI (M := 1) hw)) [] rfl (by decide) q319 q320 q20 q321 ⟨by decide, by decide, rfl⟩ ⟨by decide, by decide⟩ rfl (Nat.le_of_ble_eq_true rfl) ⟨by decide, by decide⟩ dX8_ofLayer_14) (is := []) rfl [0, 1, 2, 3, 4] (rs := [[(X 0, .inr (9, [.ref (X 1), .int (nI nb), .ref (X 2), .ref (X 6), .ref (X 8), .ref (X 10), .ref (X 14), .ref (X 18), .int (nI nl), .int du, .ref (X 19), .int mo, .ref (X 20), .int cl]))], [(X 2, .inr (6, [.int (nI n), .ref (X 3), .ref (X 4), .ref (X 5)]))], [(X 3, .inl (G.2.1 0, 8, .inl f))], [(X 4, .inl (G.2.1 0, 8, .inl g))], [(X 5, .inl (G.2.1 0, 8, .inl h))]]) rfl (by decide) (by decide) ?_
  rintro _ rfl
  rcases (show w = 0 ∨ w = 1 by omega) with rfl | rfl
  · refine V_iload_n hC dX8_ofLayer_17 2 rfl ?_
    refine V_if_neF hC dX8_ofLayer_18 (tgt := 33) (by decide) (by decide) ?_
    refine V_aload_n hC dX8_ofLayer_21 0 rfl ?_
    refine V_get hC dX8_ofLayer_22 inAX8 (mem_at 0 0 rfl rfl) rfl 2 (by decide) q274 rfl (v := .ref (X 2)) rfl ?_
    refine V_get hC dX8_ofLayer_25 inAX5 (mem_at 1 0 rfl rfl) rfl 1 (by decide) q56 rfl (v := .ref (X 3)) rfl ?_
    refine V_iload_n hC dX8_ofLayer_28 1 rfl ?_
    refine V_iald hC dX8_ofLayer_29 (mem_at 2 0 rfl rfl) (vp_in_nI (by omega) (by omega)) (x := i) (nI_clamp (by omega)) ?_
    refine V_goto hC dX8_ofLayer_30 (tgt := 42) (by decide) ?_
    exact V_iret hC hQ hr [0, 1, 2, 3, 4] (u := [[(X 0, .inr (9, [.ref (X 1), .int (nI nb), .ref (X 2), .ref (X 6), .ref (X 8), .ref (X 10), .ref (X 14), .ref (X 18), .int (nI nl), .int du, .ref (X 19), .int mo, .ref (X 20), .int cl]))], [(X 2, .inr (6, [.int (nI n), .ref (X 3), .ref (X 4), .ref (X 5)]))], [(X 3, .inl (G.2.1 0, 8, .inl f))], [(X 4, .inl (G.2.1 0, 8, .inl g))], [(X 5, .inl (G.2.1 0, 8, .inl h))]]) (by decide) rfl (by decide) (by decide) dX8_ofLayer_42 (⟨rfl, rfl⟩)
  · refine V_iload_n hC dX8_ofLayer_17 2 rfl ?_
    refine V_if_neT hC dX8_ofLayer_18 (tgt := 33) (by decide) (by decide) ?_
    refine V_aload_n hC dX8_ofLayer_33 0 rfl ?_
    refine V_get hC dX8_ofLayer_34 inAX8 (mem_at 0 0 rfl rfl) rfl 2 (by decide) q274 rfl (v := .ref (X 2)) rfl ?_
    refine V_get hC dX8_ofLayer_37 inAX5 (mem_at 1 0 rfl rfl) rfl 2 (by decide) q58 rfl (v := .ref (X 4)) rfl ?_
    refine V_iload_n hC dX8_ofLayer_40 1 rfl ?_
    refine V_iald hC dX8_ofLayer_41 (mem_at 3 0 rfl rfl) (vp_in_nI (by omega) (by omega)) (x := i) (nI_clamp (by omega)) ?_
    exact V_iret hC hQ hr [0, 1, 2, 3, 4] (u := [[(X 0, .inr (9, [.ref (X 1), .int (nI nb), .ref (X 2), .ref (X 6), .ref (X 8), .ref (X 10), .ref (X 14), .ref (X 18), .int (nI nl), .int du, .ref (X 19), .int mo, .ref (X 20), .int cl]))], [(X 2, .inr (6, [.int (nI n), .ref (X 3), .ref (X 4), .ref (X 5)]))], [(X 3, .inl (G.2.1 0, 8, .inl f))], [(X 4, .inl (G.2.1 0, 8, .inl g))], [(X 5, .inl (G.2.1 0, 8, .inl h))]]) (by decide) rfl (by decide) (by decide) dX8_ofLayer_42 (⟨rfl, rfl⟩)
set_option maxHeartbeats 4000000 in
set_option maxRecDepth 100000 in
/-- ClinkerWorks.row -/
theorem c_X8z_row (l : Launch) (G : VG) (X : Nat → Nat) (nb nl : Nat) (du mo cl : Int32) (Z : Nat → Nat → Nat) (sz : Nat → SV) (i w : Nat) (hs12 : ∀ j, j < 2 → (sz j).1 ≤ 12) (hi : i < 2) (hw : w ≤ 2147483647) : Mi l G yX8_row cX8_row 3 .int 2 42 0 0 [.ref (X 0), .int (nI i), .int (nI w)] [[(X 0, .inr (9, [.ref (X 1), .int (nI nb), .ref (X 2), .ref (X 6), .ref (X 8), .ref (X 10), .ref (X 14), .ref (X 18), .int (nI nl), .int du, .ref (X 19), .int mo, .ref (X 20), .int cl]))], [(X 19, .inl (G.2.1 6, 2, .inr (.inr (.inr (.inr (refA 2 Z))))))], famW 2 (fun ι => slP G (Z ι) (sz ι))] (fun r u => r = siAt (sz i).2.2 (sz i).1 (nI w) ∧ u = [[(X 0, .inr (9, [.ref (X 1), .int (nI nb), .ref (X 2), .ref (X 6), .ref (X 8), .ref (X 10), .ref (X 14), .ref (X 18), .int (nI nl), .int du, .ref (X 19), .int mo, .ref (X 20), .int cl]))], [(X 19, .inl (G.2.1 6, 2, .inr (.inr (.inr (.inr (refA 2 Z))))))], famW 2 (fun ι => slP G (Z ι) (sz ι))]) := by
  refine Mi_of (by decide) (Nat.le_of_ble_eq_true rfl) (fun pP eE sS mM aA bB tT cC AA QQ hC hr hnm hQ => ?_)
  refine V_iload_n hC dX8_row_0 1 rfl ?_
  refine V_iconst hC dX8_row_1 (v := 2) (by decide) ?_
  refine V_callv hC (V_runS hC (rest := []) [.int (nI i), .int 2] (c_X8z_needIndex l G (nI i) 2 (ixB_in (N := 2) hi)) [] rfl (by decide) q542 q543 q20 q544 ⟨by decide, by decide, rfl⟩ ⟨by decide, by decide⟩ rfl (Nat.le_of_ble_eq_true rfl) ⟨by decide, by decide⟩ dX8_row_2) (is := []) rfl [0, 1, 2] (rs := [[(X 0, .inr (9, [.ref (X 1), .int (nI nb), .ref (X 2), .ref (X 6), .ref (X 8), .ref (X 10), .ref (X 14), .ref (X 18), .int (nI nl), .int du, .ref (X 19), .int mo, .ref (X 20), .int cl]))], [(X 19, .inl (G.2.1 6, 2, .inr (.inr (.inr (.inr (refA 2 Z))))))], famW 2 (fun ι => slP G (Z ι) (sz ι))]) rfl (by decide) (by decide) ?_
  rintro _ rfl
  refine V_iload_n hC dX8_row_5 2 rfl ?_
  refine V_if_geT hC dX8_row_6 (tgt := 20) (by decide) ((inR_nI (M := 2147483647) hw).1) ?_
  refine V_aload_n hC dX8_row_20 0 rfl ?_
  refine V_get hC dX8_row_21 inAX8 (mem_at 0 0 rfl rfl) rfl 10 (by decide) q282 rfl (v := .ref (X 19)) rfl ?_
  refine V_sub [2, 0, 1] (by decide) (u := [famW 2 (fun ι => slP G (Z ι) (sz ι)), [(X 0, .inr (9, [.ref (X 1), .int (nI nb), .ref (X 2), .ref (X 6), .ref (X 8), .ref (X 10), .ref (X 14), .ref (X 18), .int (nI nl), .int du, .ref (X 19), .int mo, .ref (X 20), .int cl]))], [(X 19, .inl (G.2.1 6, 2, .inr (.inr (.inr (.inr (refA 2 Z))))))]]) rfl ?_
  refine V_open (i := i) (by omega) ?_
  refine V_iload_n hC dX8_row_24 1 rfl ?_
  refine V_aald hC dX8_row_25 6 rfl (mem_at 3 0 rfl rfl) (vp_in_nI (by omega) (by omega)) (x := i) (nI_clamp (by omega)) (b := (Z i) 0) (refA_at (by omega)) ?_
  refine V_iload_n hC dX8_row_26 2 rfl ?_
  refine V_calli hC (V_runV hC (rest := []) [.int (nI w)] (k_X6_lotAt l G (Z i) (sz i) (nI w) (hs12 i hi)) [0] rfl (by decide) q690 q691 q692 q28 q693 ⟨by decide, by decide, rfl⟩ ⟨by decide, by decide⟩ (ci := 7) rfl (mem_at 0 0 rfl rfl) rfl (Nat.le_of_ble_eq_true rfl) ⟨by decide, by decide⟩ dX8_row_27) (is := [0]) rfl [1, 2, 3] (rs := [famX 2 i (fun ι => slP G (Z ι) (sz ι)), [(X 0, .inr (9, [.ref (X 1), .int (nI nb), .ref (X 2), .ref (X 6), .ref (X 8), .ref (X 10), .ref (X 14), .ref (X 18), .int (nI nl), .int du, .ref (X 19), .int mo, .ref (X 20), .int cl]))], [(X 19, .inl (G.2.1 6, 2, .inr (.inr (.inr (.inr (refA 2 Z))))))]]) rfl (by decide) (by decide) ?_
  rintro _ _ ⟨rfl, rfl⟩
  refine V_close (i := i) (g' := fun ι => slP G (Z ι) (sz ι)) (by omega) (rfl) (fun _ _ _ => rfl) ?_
  exact V_iret hC hQ hr [1, 2, 0] (u := [[(X 0, .inr (9, [.ref (X 1), .int (nI nb), .ref (X 2), .ref (X 6), .ref (X 8), .ref (X 10), .ref (X 14), .ref (X 18), .int (nI nl), .int du, .ref (X 19), .int mo, .ref (X 20), .int cl]))], [(X 19, .inl (G.2.1 6, 2, .inr (.inr (.inr (.inr (refA 2 Z))))))], famW 2 (fun ι => slP G (Z ι) (sz ι))]) (by decide) rfl (by decide) (by decide) dX8_row_30 (⟨rfl, rfl⟩)
set_option maxHeartbeats 4000000 in
set_option maxRecDepth 100000 in
/-- ClinkerWorks.ofCell -/
theorem c_X8z_ofCell (l : Launch) (G : VG) (X : Nat → Nat) (nb nl : Nat) (du mo cl : Int32) (C : Nat → Nat → Nat) (O : Nat → Nat) (S : KS) (i w : Nat) (hi : i < 5) (hw : w ≤ 7) : Mi l G yX8_ofCell cX8_ofCell 4 .int 2 42 0 0 [.ref (X 0), .int (nI i), .int (nI w)] [[(X 0, .inr (9, [.ref (X 1), .int (nI nb), .ref (X 2), .ref (X 6), .ref (X 8), .ref (X 10), .ref (X 14), .ref (X 18), .int (nI nl), .int du, .ref (X 19), .int mo, .ref (X 20), .int cl]))], [(X 10, .inr (3, [.ref (X 11), .ref (X 12), .ref (X 13), .int (nI S.2.1), .ref (O 0), .int (S.1 0), .int (S.1 1), .int (S.1 2), .int (S.1 3), .int (S.1 4), .int (S.1 5), .int (S.1 6)]))], [(X 11, .inl (G.2.1 4, 5, .inr (.inr (.inr (.inr (refA 5 C))))))], [(X 12, .inl (G.2.1 0, 5, .inl S.2.2.2.2.2))], famW 5 (fun ι => chP G (C ι) (S.2.2.1 ι))] (fun r u => r = qCell (S.2.2.1 i) (S.2.2.2.2.2 i) w ∧ u = [[(X 0, .inr (9, [.ref (X 1), .int (nI nb), .ref (X 2), .ref (X 6), .ref (X 8), .ref (X 10), .ref (X 14), .ref (X 18), .int (nI nl), .int du, .ref (X 19), .int mo, .ref (X 20), .int cl]))], [(X 10, .inr (3, [.ref (X 11), .ref (X 12), .ref (X 13), .int (nI S.2.1), .ref (O 0), .int (S.1 0), .int (S.1 1), .int (S.1 2), .int (S.1 3), .int (S.1 4), .int (S.1 5), .int (S.1 6)]))], [(X 11, .inl (G.2.1 4, 5, .inr (.inr (.inr (.inr (refA 5 C))))))], [(X 12, .inl (G.2.1 0, 5, .inl S.2.2.2.2.2))], famW 5 (fun ι => chP G (C ι) (S.2.2.1 ι))]) := by
  refine Mi_of (by decide) (Nat.le_of_ble_eq_true rfl) (fun pP eE sS mM aA bB tT cC AA QQ hC hr hnm hQ => ?_)
  refine V_iload_n hC dX8_ofCell_0 1 rfl ?_
  refine V_iconst hC dX8_ofCell_1 (v := 5) (by decide) ?_
  refine V_callv hC (V_runS hC (rest := []) [.int (nI i), .int 5] (c_X8z_needIndex l G (nI i) 5 (ixB_in (N := 5) hi)) [] rfl (by decide) q542 q543 q20 q544 ⟨by decide, by decide, rfl⟩ ⟨by decide, by decide⟩ rfl (Nat.le_of_ble_eq_true rfl) ⟨by decide, by decide⟩ dX8_ofCell_2) (is := []) rfl [0, 1, 2, 3, 4] (rs := [[(X 0, .inr (9, [.ref (X 1), .int (nI nb), .ref (X 2), .ref (X 6), .ref (X 8), .ref (X 10), .ref (X 14), .ref (X 18), .int (nI nl), .int du, .ref (X 19), .int mo, .ref (X 20), .int cl]))], [(X 10, .inr (3, [.ref (X 11), .ref (X 12), .ref (X 13), .int (nI S.2.1), .ref (O 0), .int (S.1 0), .int (S.1 1), .int (S.1 2), .int (S.1 3), .int (S.1 4), .int (S.1 5), .int (S.1 6)]))], [(X 11, .inl (G.2.1 4, 5, .inr (.inr (.inr (.inr (refA 5 C))))))], [(X 12, .inl (G.2.1 0, 5, .inl S.2.2.2.2.2))], famW 5 (fun ι => chP G (C ι) (S.2.2.1 ι))]) rfl (by decide) (by decide) ?_
  rintro _ rfl
  refine V_iload_n hC dX8_ofCell_5 2 rfl ?_
  refine V_iconst hC dX8_ofCell_6 (v := 0) (by decide) ?_
  refine V_bipush hC dX8_ofCell_7 (v := 7) (by decide) ?_
  refine V_callv hC (V_runS hC (rest := []) [.int (nI w), .int 0, .int 7] (c_X8z_needArgument l G (nI w) 0 7 (inR_nI (M := 7) hw)) [] rfl (by decide) q319 q320 q20 q321 ⟨by decide, by decide, rfl⟩ ⟨by decide, by decide⟩ rfl (Nat.le_of_ble_eq_true rfl) ⟨by decide, by decide⟩ dX8_ofCell_9) (is := []) rfl [0, 1, 2, 3, 4] (rs := [[(X 0, .inr (9, [.ref (X 1), .int (nI nb), .ref (X 2), .ref (X 6), .ref (X 8), .ref (X 10), .ref (X 14), .ref (X 18), .int (nI nl), .int du, .ref (X 19), .int mo, .ref (X 20), .int cl]))], [(X 10, .inr (3, [.ref (X 11), .ref (X 12), .ref (X 13), .int (nI S.2.1), .ref (O 0), .int (S.1 0), .int (S.1 1), .int (S.1 2), .int (S.1 3), .int (S.1 4), .int (S.1 5), .int (S.1 6)]))], [(X 11, .inl (G.2.1 4, 5, .inr (.inr (.inr (.inr (refA 5 C))))))], [(X 12, .inl (G.2.1 0, 5, .inl S.2.2.2.2.2))], famW 5 (fun ι => chP G (C ι) (S.2.2.1 ι))]) rfl (by decide) (by decide) ?_
  rintro _ rfl
  rcases (show w = 0 ∨ w = 1 ∨ w = 2 ∨ w = 3 ∨ w = 4 ∨ w = 5 ∨ w = 6 ∨ w = 7 by omega) with rfl | rfl | rfl | rfl | rfl | rfl | rfl | rfl
  · refine V_aload_n hC dX8_ofCell_12 0 rfl ?_
    refine V_get hC dX8_ofCell_13 inAX8 (mem_at 0 0 rfl rfl) rfl 5 (by decide) q277 rfl (v := .ref (X 10)) rfl ?_
    refine V_get hC dX8_ofCell_16 inAX2 (mem_at 1 0 rfl rfl) rfl 0 (by decide) q134 rfl (v := .ref (X 11)) rfl ?_
    refine V_iload_n hC dX8_ofCell_19 1 rfl ?_
    refine V_aald hC dX8_ofCell_20 4 rfl (mem_at 2 0 rfl rfl) (vp_in_nI (by omega) (by omega)) (x := i) (nI_clamp (by omega)) (b := (C i) 0) (refA_at (by omega)) ?_
    refine V_astore_n hC dX8_ofCell_21 (L' := [(3, .ref ((C i) 0)), (0, .ref (X 0)), (1, .int (nI i)), (2, .int (nI 0))]) (by decide) rfl ?_
    refine V_iload_n hC dX8_ofCell_22 3 rfl ?_
    refine V_if_neF hC dX8_ofCell_23 (tgt := 36) (by decide) (by decide) ?_
    refine V_aload_n hC dX8_ofCell_26 1 rfl ?_
    refine V_get hC dX8_ofCell_27 inAX8 (mem_at 0 0 rfl rfl) rfl 5 (by decide) q277 rfl (v := .ref (X 10)) rfl ?_
    refine V_get hC dX8_ofCell_30 inAX2 (mem_at 1 0 rfl rfl) rfl 1 (by decide) q136 rfl (v := .ref (X 12)) rfl ?_
    refine V_iload_n hC dX8_ofCell_33 2 rfl ?_
    refine V_iald hC dX8_ofCell_34 (mem_at 3 0 rfl rfl) (vp_in_nI (by omega) (by omega)) (x := i) (nI_clamp (by omega)) ?_
    exact V_iret hC hQ hr [0, 1, 2, 3, 4] (u := [[(X 0, .inr (9, [.ref (X 1), .int (nI nb), .ref (X 2), .ref (X 6), .ref (X 8), .ref (X 10), .ref (X 14), .ref (X 18), .int (nI nl), .int du, .ref (X 19), .int mo, .ref (X 20), .int cl]))], [(X 10, .inr (3, [.ref (X 11), .ref (X 12), .ref (X 13), .int (nI S.2.1), .ref (O 0), .int (S.1 0), .int (S.1 1), .int (S.1 2), .int (S.1 3), .int (S.1 4), .int (S.1 5), .int (S.1 6)]))], [(X 11, .inl (G.2.1 4, 5, .inr (.inr (.inr (.inr (refA 5 C))))))], [(X 12, .inl (G.2.1 0, 5, .inl S.2.2.2.2.2))], famW 5 (fun ι => chP G (C ι) (S.2.2.1 ι))]) (by decide) rfl (by decide) (by decide) dX8_ofCell_35 (⟨by rfl, rfl⟩)
  · refine V_aload_n hC dX8_ofCell_12 0 rfl ?_
    refine V_get hC dX8_ofCell_13 inAX8 (mem_at 0 0 rfl rfl) rfl 5 (by decide) q277 rfl (v := .ref (X 10)) rfl ?_
    refine V_get hC dX8_ofCell_16 inAX2 (mem_at 1 0 rfl rfl) rfl 0 (by decide) q134 rfl (v := .ref (X 11)) rfl ?_
    refine V_iload_n hC dX8_ofCell_19 1 rfl ?_
    refine V_aald hC dX8_ofCell_20 4 rfl (mem_at 2 0 rfl rfl) (vp_in_nI (by omega) (by omega)) (x := i) (nI_clamp (by omega)) (b := (C i) 0) (refA_at (by omega)) ?_
    refine V_astore_n hC dX8_ofCell_21 (L' := [(3, .ref ((C i) 0)), (0, .ref (X 0)), (1, .int (nI i)), (2, .int (nI 1))]) (by decide) rfl ?_
    refine V_iload_n hC dX8_ofCell_22 3 rfl ?_
    refine V_if_neT hC dX8_ofCell_23 (tgt := 36) (by decide) (by decide) ?_
    refine V_aload_n hC dX8_ofCell_36 0 rfl ?_
    refine V_get hC dX8_ofCell_37 inAX1 (mem_fam 4 0 rfl i (by first | assumption | omega) rfl) rfl 0 (by decide) q100 rfl (v := .int (((S.2.2.1 i).1) 0)) rfl ?_
    refine V_if_ne hC dX8_ofCell_40 (tgt := 45) (by decide) (fun h1 => ?_) (fun h1 => ?_)
    · refine V_iload_n hC dX8_ofCell_45 3 rfl ?_
      refine V_tabIn hC dX8_ofCell_46 (by decide) (by decide) (off := 38) (by decide) (tgt := 84) (by decide) ?_
      refine V_iconst hC dX8_ofCell_84 (v := 1) (by decide) ?_
      exact V_iret hC hQ hr [0, 1, 2, 3, 4] (u := [[(X 0, .inr (9, [.ref (X 1), .int (nI nb), .ref (X 2), .ref (X 6), .ref (X 8), .ref (X 10), .ref (X 14), .ref (X 18), .int (nI nl), .int du, .ref (X 19), .int mo, .ref (X 20), .int cl]))], [(X 10, .inr (3, [.ref (X 11), .ref (X 12), .ref (X 13), .int (nI S.2.1), .ref (O 0), .int (S.1 0), .int (S.1 1), .int (S.1 2), .int (S.1 3), .int (S.1 4), .int (S.1 5), .int (S.1 6)]))], [(X 11, .inl (G.2.1 4, 5, .inr (.inr (.inr (.inr (refA 5 C))))))], [(X 12, .inl (G.2.1 0, 5, .inl S.2.2.2.2.2))], famW 5 (fun ι => chP G (C ι) (S.2.2.1 ι))]) (by decide) rfl (by decide) (by decide) dX8_ofCell_85 (⟨by simp only [qCell, if_neg h1], rfl⟩)
    · refine V_iconst hC dX8_ofCell_43 (v := 0) (by decide) ?_
      exact V_iret hC hQ hr [0, 1, 2, 3, 4] (u := [[(X 0, .inr (9, [.ref (X 1), .int (nI nb), .ref (X 2), .ref (X 6), .ref (X 8), .ref (X 10), .ref (X 14), .ref (X 18), .int (nI nl), .int du, .ref (X 19), .int mo, .ref (X 20), .int cl]))], [(X 10, .inr (3, [.ref (X 11), .ref (X 12), .ref (X 13), .int (nI S.2.1), .ref (O 0), .int (S.1 0), .int (S.1 1), .int (S.1 2), .int (S.1 3), .int (S.1 4), .int (S.1 5), .int (S.1 6)]))], [(X 11, .inl (G.2.1 4, 5, .inr (.inr (.inr (.inr (refA 5 C))))))], [(X 12, .inl (G.2.1 0, 5, .inl S.2.2.2.2.2))], famW 5 (fun ι => chP G (C ι) (S.2.2.1 ι))]) (by decide) rfl (by decide) (by decide) dX8_ofCell_44 (⟨by simp only [qCell, if_pos h1], rfl⟩)
  · refine V_aload_n hC dX8_ofCell_12 0 rfl ?_
    refine V_get hC dX8_ofCell_13 inAX8 (mem_at 0 0 rfl rfl) rfl 5 (by decide) q277 rfl (v := .ref (X 10)) rfl ?_
    refine V_get hC dX8_ofCell_16 inAX2 (mem_at 1 0 rfl rfl) rfl 0 (by decide) q134 rfl (v := .ref (X 11)) rfl ?_
    refine V_iload_n hC dX8_ofCell_19 1 rfl ?_
    refine V_aald hC dX8_ofCell_20 4 rfl (mem_at 2 0 rfl rfl) (vp_in_nI (by omega) (by omega)) (x := i) (nI_clamp (by omega)) (b := (C i) 0) (refA_at (by omega)) ?_
    refine V_astore_n hC dX8_ofCell_21 (L' := [(3, .ref ((C i) 0)), (0, .ref (X 0)), (1, .int (nI i)), (2, .int (nI 2))]) (by decide) rfl ?_
    refine V_iload_n hC dX8_ofCell_22 3 rfl ?_
    refine V_if_neT hC dX8_ofCell_23 (tgt := 36) (by decide) (by decide) ?_
    refine V_aload_n hC dX8_ofCell_36 0 rfl ?_
    refine V_get hC dX8_ofCell_37 inAX1 (mem_fam 4 0 rfl i (by first | assumption | omega) rfl) rfl 0 (by decide) q100 rfl (v := .int (((S.2.2.1 i).1) 0)) rfl ?_
    refine V_if_ne hC dX8_ofCell_40 (tgt := 45) (by decide) (fun h2 => ?_) (fun h2 => ?_)
    · refine V_iload_n hC dX8_ofCell_45 3 rfl ?_
      refine V_tabIn hC dX8_ofCell_46 (by decide) (by decide) (off := 40) (by decide) (tgt := 86) (by decide) ?_
      refine V_aload_n hC dX8_ofCell_86 0 rfl ?_
      refine V_get hC dX8_ofCell_87 inAX1 (mem_fam 4 0 rfl i (by first | assumption | omega) rfl) rfl 3 (by decide) q107 rfl (v := .int (((S.2.2.1 i).1) 1)) rfl ?_
      exact V_iret hC hQ hr [0, 1, 2, 3, 4] (u := [[(X 0, .inr (9, [.ref (X 1), .int (nI nb), .ref (X 2), .ref (X 6), .ref (X 8), .ref (X 10), .ref (X 14), .ref (X 18), .int (nI nl), .int du, .ref (X 19), .int mo, .ref (X 20), .int cl]))], [(X 10, .inr (3, [.ref (X 11), .ref (X 12), .ref (X 13), .int (nI S.2.1), .ref (O 0), .int (S.1 0), .int (S.1 1), .int (S.1 2), .int (S.1 3), .int (S.1 4), .int (S.1 5), .int (S.1 6)]))], [(X 11, .inl (G.2.1 4, 5, .inr (.inr (.inr (.inr (refA 5 C))))))], [(X 12, .inl (G.2.1 0, 5, .inl S.2.2.2.2.2))], famW 5 (fun ι => chP G (C ι) (S.2.2.1 ι))]) (by decide) rfl (by decide) (by decide) dX8_ofCell_90 (⟨by simp only [qCell, if_neg h2], rfl⟩)
    · refine V_iconst hC dX8_ofCell_43 (v := 0) (by decide) ?_
      exact V_iret hC hQ hr [0, 1, 2, 3, 4] (u := [[(X 0, .inr (9, [.ref (X 1), .int (nI nb), .ref (X 2), .ref (X 6), .ref (X 8), .ref (X 10), .ref (X 14), .ref (X 18), .int (nI nl), .int du, .ref (X 19), .int mo, .ref (X 20), .int cl]))], [(X 10, .inr (3, [.ref (X 11), .ref (X 12), .ref (X 13), .int (nI S.2.1), .ref (O 0), .int (S.1 0), .int (S.1 1), .int (S.1 2), .int (S.1 3), .int (S.1 4), .int (S.1 5), .int (S.1 6)]))], [(X 11, .inl (G.2.1 4, 5, .inr (.inr (.inr (.inr (refA 5 C))))))], [(X 12, .inl (G.2.1 0, 5, .inl S.2.2.2.2.2))], famW 5 (fun ι => chP G (C ι) (S.2.2.1 ι))]) (by decide) rfl (by decide) (by decide) dX8_ofCell_44 (⟨by simp only [qCell, if_pos h2], rfl⟩)
  · refine V_aload_n hC dX8_ofCell_12 0 rfl ?_
    refine V_get hC dX8_ofCell_13 inAX8 (mem_at 0 0 rfl rfl) rfl 5 (by decide) q277 rfl (v := .ref (X 10)) rfl ?_
    refine V_get hC dX8_ofCell_16 inAX2 (mem_at 1 0 rfl rfl) rfl 0 (by decide) q134 rfl (v := .ref (X 11)) rfl ?_
    refine V_iload_n hC dX8_ofCell_19 1 rfl ?_
    refine V_aald hC dX8_ofCell_20 4 rfl (mem_at 2 0 rfl rfl) (vp_in_nI (by omega) (by omega)) (x := i) (nI_clamp (by omega)) (b := (C i) 0) (refA_at (by omega)) ?_
    refine V_astore_n hC dX8_ofCell_21 (L' := [(3, .ref ((C i) 0)), (0, .ref (X 0)), (1, .int (nI i)), (2, .int (nI 3))]) (by decide) rfl ?_
    refine V_iload_n hC dX8_ofCell_22 3 rfl ?_
    refine V_if_neT hC dX8_ofCell_23 (tgt := 36) (by decide) (by decide) ?_
    refine V_aload_n hC dX8_ofCell_36 0 rfl ?_
    refine V_get hC dX8_ofCell_37 inAX1 (mem_fam 4 0 rfl i (by first | assumption | omega) rfl) rfl 0 (by decide) q100 rfl (v := .int (((S.2.2.1 i).1) 0)) rfl ?_
    refine V_if_ne hC dX8_ofCell_40 (tgt := 45) (by decide) (fun h3 => ?_) (fun h3 => ?_)
    · refine V_iload_n hC dX8_ofCell_45 3 rfl ?_
      refine V_tabIn hC dX8_ofCell_46 (by decide) (by decide) (off := 45) (by decide) (tgt := 91) (by decide) ?_
      refine V_aload_n hC dX8_ofCell_91 0 rfl ?_
      refine V_get hC dX8_ofCell_92 inAX1 (mem_fam 4 0 rfl i (by first | assumption | omega) rfl) rfl 4 (by decide) q109 rfl (v := .int (((S.2.2.1 i).1) 2)) rfl ?_
      exact V_iret hC hQ hr [0, 1, 2, 3, 4] (u := [[(X 0, .inr (9, [.ref (X 1), .int (nI nb), .ref (X 2), .ref (X 6), .ref (X 8), .ref (X 10), .ref (X 14), .ref (X 18), .int (nI nl), .int du, .ref (X 19), .int mo, .ref (X 20), .int cl]))], [(X 10, .inr (3, [.ref (X 11), .ref (X 12), .ref (X 13), .int (nI S.2.1), .ref (O 0), .int (S.1 0), .int (S.1 1), .int (S.1 2), .int (S.1 3), .int (S.1 4), .int (S.1 5), .int (S.1 6)]))], [(X 11, .inl (G.2.1 4, 5, .inr (.inr (.inr (.inr (refA 5 C))))))], [(X 12, .inl (G.2.1 0, 5, .inl S.2.2.2.2.2))], famW 5 (fun ι => chP G (C ι) (S.2.2.1 ι))]) (by decide) rfl (by decide) (by decide) dX8_ofCell_95 (⟨by simp only [qCell, if_neg h3], rfl⟩)
    · refine V_iconst hC dX8_ofCell_43 (v := 0) (by decide) ?_
      exact V_iret hC hQ hr [0, 1, 2, 3, 4] (u := [[(X 0, .inr (9, [.ref (X 1), .int (nI nb), .ref (X 2), .ref (X 6), .ref (X 8), .ref (X 10), .ref (X 14), .ref (X 18), .int (nI nl), .int du, .ref (X 19), .int mo, .ref (X 20), .int cl]))], [(X 10, .inr (3, [.ref (X 11), .ref (X 12), .ref (X 13), .int (nI S.2.1), .ref (O 0), .int (S.1 0), .int (S.1 1), .int (S.1 2), .int (S.1 3), .int (S.1 4), .int (S.1 5), .int (S.1 6)]))], [(X 11, .inl (G.2.1 4, 5, .inr (.inr (.inr (.inr (refA 5 C))))))], [(X 12, .inl (G.2.1 0, 5, .inl S.2.2.2.2.2))], famW 5 (fun ι => chP G (C ι) (S.2.2.1 ι))]) (by decide) rfl (by decide) (by decide) dX8_ofCell_44 (⟨by simp only [qCell, if_pos h3], rfl⟩)
  · refine V_aload_n hC dX8_ofCell_12 0 rfl ?_
    refine V_get hC dX8_ofCell_13 inAX8 (mem_at 0 0 rfl rfl) rfl 5 (by decide) q277 rfl (v := .ref (X 10)) rfl ?_
    refine V_get hC dX8_ofCell_16 inAX2 (mem_at 1 0 rfl rfl) rfl 0 (by decide) q134 rfl (v := .ref (X 11)) rfl ?_
    refine V_iload_n hC dX8_ofCell_19 1 rfl ?_
    refine V_aald hC dX8_ofCell_20 4 rfl (mem_at 2 0 rfl rfl) (vp_in_nI (by omega) (by omega)) (x := i) (nI_clamp (by omega)) (b := (C i) 0) (refA_at (by omega)) ?_
    refine V_astore_n hC dX8_ofCell_21 (L' := [(3, .ref ((C i) 0)), (0, .ref (X 0)), (1, .int (nI i)), (2, .int (nI 4))]) (by decide) rfl ?_
    refine V_iload_n hC dX8_ofCell_22 3 rfl ?_
    refine V_if_neT hC dX8_ofCell_23 (tgt := 36) (by decide) (by decide) ?_
    refine V_aload_n hC dX8_ofCell_36 0 rfl ?_
    refine V_get hC dX8_ofCell_37 inAX1 (mem_fam 4 0 rfl i (by first | assumption | omega) rfl) rfl 0 (by decide) q100 rfl (v := .int (((S.2.2.1 i).1) 0)) rfl ?_
    refine V_if_ne hC dX8_ofCell_40 (tgt := 45) (by decide) (fun h4 => ?_) (fun h4 => ?_)
    · refine V_iload_n hC dX8_ofCell_45 3 rfl ?_
      refine V_tabIn hC dX8_ofCell_46 (by decide) (by decide) (off := 50) (by decide) (tgt := 96) (by decide) ?_
      refine V_aload_n hC dX8_ofCell_96 0 rfl ?_
      refine V_get hC dX8_ofCell_97 inAX1 (mem_fam 4 0 rfl i (by first | assumption | omega) rfl) rfl 5 (by decide) q111 rfl (v := .int (((S.2.2.1 i).1) 3)) rfl ?_
      exact V_iret hC hQ hr [0, 1, 2, 3, 4] (u := [[(X 0, .inr (9, [.ref (X 1), .int (nI nb), .ref (X 2), .ref (X 6), .ref (X 8), .ref (X 10), .ref (X 14), .ref (X 18), .int (nI nl), .int du, .ref (X 19), .int mo, .ref (X 20), .int cl]))], [(X 10, .inr (3, [.ref (X 11), .ref (X 12), .ref (X 13), .int (nI S.2.1), .ref (O 0), .int (S.1 0), .int (S.1 1), .int (S.1 2), .int (S.1 3), .int (S.1 4), .int (S.1 5), .int (S.1 6)]))], [(X 11, .inl (G.2.1 4, 5, .inr (.inr (.inr (.inr (refA 5 C))))))], [(X 12, .inl (G.2.1 0, 5, .inl S.2.2.2.2.2))], famW 5 (fun ι => chP G (C ι) (S.2.2.1 ι))]) (by decide) rfl (by decide) (by decide) dX8_ofCell_100 (⟨by simp only [qCell, if_neg h4], rfl⟩)
    · refine V_iconst hC dX8_ofCell_43 (v := 0) (by decide) ?_
      exact V_iret hC hQ hr [0, 1, 2, 3, 4] (u := [[(X 0, .inr (9, [.ref (X 1), .int (nI nb), .ref (X 2), .ref (X 6), .ref (X 8), .ref (X 10), .ref (X 14), .ref (X 18), .int (nI nl), .int du, .ref (X 19), .int mo, .ref (X 20), .int cl]))], [(X 10, .inr (3, [.ref (X 11), .ref (X 12), .ref (X 13), .int (nI S.2.1), .ref (O 0), .int (S.1 0), .int (S.1 1), .int (S.1 2), .int (S.1 3), .int (S.1 4), .int (S.1 5), .int (S.1 6)]))], [(X 11, .inl (G.2.1 4, 5, .inr (.inr (.inr (.inr (refA 5 C))))))], [(X 12, .inl (G.2.1 0, 5, .inl S.2.2.2.2.2))], famW 5 (fun ι => chP G (C ι) (S.2.2.1 ι))]) (by decide) rfl (by decide) (by decide) dX8_ofCell_44 (⟨by simp only [qCell, if_pos h4], rfl⟩)
  · refine V_aload_n hC dX8_ofCell_12 0 rfl ?_
    refine V_get hC dX8_ofCell_13 inAX8 (mem_at 0 0 rfl rfl) rfl 5 (by decide) q277 rfl (v := .ref (X 10)) rfl ?_
    refine V_get hC dX8_ofCell_16 inAX2 (mem_at 1 0 rfl rfl) rfl 0 (by decide) q134 rfl (v := .ref (X 11)) rfl ?_
    refine V_iload_n hC dX8_ofCell_19 1 rfl ?_
    refine V_aald hC dX8_ofCell_20 4 rfl (mem_at 2 0 rfl rfl) (vp_in_nI (by omega) (by omega)) (x := i) (nI_clamp (by omega)) (b := (C i) 0) (refA_at (by omega)) ?_
    refine V_astore_n hC dX8_ofCell_21 (L' := [(3, .ref ((C i) 0)), (0, .ref (X 0)), (1, .int (nI i)), (2, .int (nI 5))]) (by decide) rfl ?_
    refine V_iload_n hC dX8_ofCell_22 3 rfl ?_
    refine V_if_neT hC dX8_ofCell_23 (tgt := 36) (by decide) (by decide) ?_
    refine V_aload_n hC dX8_ofCell_36 0 rfl ?_
    refine V_get hC dX8_ofCell_37 inAX1 (mem_fam 4 0 rfl i (by first | assumption | omega) rfl) rfl 0 (by decide) q100 rfl (v := .int (((S.2.2.1 i).1) 0)) rfl ?_
    refine V_if_ne hC dX8_ofCell_40 (tgt := 45) (by decide) (fun h5 => ?_) (fun h5 => ?_)
    · refine V_iload_n hC dX8_ofCell_45 3 rfl ?_
      refine V_tabIn hC dX8_ofCell_46 (by decide) (by decide) (off := 55) (by decide) (tgt := 101) (by decide) ?_
      refine V_aload_n hC dX8_ofCell_101 0 rfl ?_
      refine V_get hC dX8_ofCell_102 inAX1 (mem_fam 4 0 rfl i (by first | assumption | omega) rfl) rfl 6 (by decide) q113 rfl (v := .int (((S.2.2.1 i).1) 4)) rfl ?_
      exact V_iret hC hQ hr [0, 1, 2, 3, 4] (u := [[(X 0, .inr (9, [.ref (X 1), .int (nI nb), .ref (X 2), .ref (X 6), .ref (X 8), .ref (X 10), .ref (X 14), .ref (X 18), .int (nI nl), .int du, .ref (X 19), .int mo, .ref (X 20), .int cl]))], [(X 10, .inr (3, [.ref (X 11), .ref (X 12), .ref (X 13), .int (nI S.2.1), .ref (O 0), .int (S.1 0), .int (S.1 1), .int (S.1 2), .int (S.1 3), .int (S.1 4), .int (S.1 5), .int (S.1 6)]))], [(X 11, .inl (G.2.1 4, 5, .inr (.inr (.inr (.inr (refA 5 C))))))], [(X 12, .inl (G.2.1 0, 5, .inl S.2.2.2.2.2))], famW 5 (fun ι => chP G (C ι) (S.2.2.1 ι))]) (by decide) rfl (by decide) (by decide) dX8_ofCell_105 (⟨by simp only [qCell, if_neg h5], rfl⟩)
    · refine V_iconst hC dX8_ofCell_43 (v := 0) (by decide) ?_
      exact V_iret hC hQ hr [0, 1, 2, 3, 4] (u := [[(X 0, .inr (9, [.ref (X 1), .int (nI nb), .ref (X 2), .ref (X 6), .ref (X 8), .ref (X 10), .ref (X 14), .ref (X 18), .int (nI nl), .int du, .ref (X 19), .int mo, .ref (X 20), .int cl]))], [(X 10, .inr (3, [.ref (X 11), .ref (X 12), .ref (X 13), .int (nI S.2.1), .ref (O 0), .int (S.1 0), .int (S.1 1), .int (S.1 2), .int (S.1 3), .int (S.1 4), .int (S.1 5), .int (S.1 6)]))], [(X 11, .inl (G.2.1 4, 5, .inr (.inr (.inr (.inr (refA 5 C))))))], [(X 12, .inl (G.2.1 0, 5, .inl S.2.2.2.2.2))], famW 5 (fun ι => chP G (C ι) (S.2.2.1 ι))]) (by decide) rfl (by decide) (by decide) dX8_ofCell_44 (⟨by simp only [qCell, if_pos h5], rfl⟩)
  · refine V_aload_n hC dX8_ofCell_12 0 rfl ?_
    refine V_get hC dX8_ofCell_13 inAX8 (mem_at 0 0 rfl rfl) rfl 5 (by decide) q277 rfl (v := .ref (X 10)) rfl ?_
    refine V_get hC dX8_ofCell_16 inAX2 (mem_at 1 0 rfl rfl) rfl 0 (by decide) q134 rfl (v := .ref (X 11)) rfl ?_
    refine V_iload_n hC dX8_ofCell_19 1 rfl ?_
    refine V_aald hC dX8_ofCell_20 4 rfl (mem_at 2 0 rfl rfl) (vp_in_nI (by omega) (by omega)) (x := i) (nI_clamp (by omega)) (b := (C i) 0) (refA_at (by omega)) ?_
    refine V_astore_n hC dX8_ofCell_21 (L' := [(3, .ref ((C i) 0)), (0, .ref (X 0)), (1, .int (nI i)), (2, .int (nI 6))]) (by decide) rfl ?_
    refine V_iload_n hC dX8_ofCell_22 3 rfl ?_
    refine V_if_neT hC dX8_ofCell_23 (tgt := 36) (by decide) (by decide) ?_
    refine V_aload_n hC dX8_ofCell_36 0 rfl ?_
    refine V_get hC dX8_ofCell_37 inAX1 (mem_fam 4 0 rfl i (by first | assumption | omega) rfl) rfl 0 (by decide) q100 rfl (v := .int (((S.2.2.1 i).1) 0)) rfl ?_
    refine V_if_ne hC dX8_ofCell_40 (tgt := 45) (by decide) (fun h6 => ?_) (fun h6 => ?_)
    · refine V_iload_n hC dX8_ofCell_45 3 rfl ?_
      refine V_tabIn hC dX8_ofCell_46 (by decide) (by decide) (off := 60) (by decide) (tgt := 106) (by decide) ?_
      refine V_aload_n hC dX8_ofCell_106 0 rfl ?_
      refine V_get hC dX8_ofCell_107 inAX1 (mem_fam 4 0 rfl i (by first | assumption | omega) rfl) rfl 7 (by decide) q115 rfl (v := .int (((S.2.2.1 i).1) 5)) rfl ?_
      exact V_iret hC hQ hr [0, 1, 2, 3, 4] (u := [[(X 0, .inr (9, [.ref (X 1), .int (nI nb), .ref (X 2), .ref (X 6), .ref (X 8), .ref (X 10), .ref (X 14), .ref (X 18), .int (nI nl), .int du, .ref (X 19), .int mo, .ref (X 20), .int cl]))], [(X 10, .inr (3, [.ref (X 11), .ref (X 12), .ref (X 13), .int (nI S.2.1), .ref (O 0), .int (S.1 0), .int (S.1 1), .int (S.1 2), .int (S.1 3), .int (S.1 4), .int (S.1 5), .int (S.1 6)]))], [(X 11, .inl (G.2.1 4, 5, .inr (.inr (.inr (.inr (refA 5 C))))))], [(X 12, .inl (G.2.1 0, 5, .inl S.2.2.2.2.2))], famW 5 (fun ι => chP G (C ι) (S.2.2.1 ι))]) (by decide) rfl (by decide) (by decide) dX8_ofCell_110 (⟨by simp only [qCell, if_neg h6], rfl⟩)
    · refine V_iconst hC dX8_ofCell_43 (v := 0) (by decide) ?_
      exact V_iret hC hQ hr [0, 1, 2, 3, 4] (u := [[(X 0, .inr (9, [.ref (X 1), .int (nI nb), .ref (X 2), .ref (X 6), .ref (X 8), .ref (X 10), .ref (X 14), .ref (X 18), .int (nI nl), .int du, .ref (X 19), .int mo, .ref (X 20), .int cl]))], [(X 10, .inr (3, [.ref (X 11), .ref (X 12), .ref (X 13), .int (nI S.2.1), .ref (O 0), .int (S.1 0), .int (S.1 1), .int (S.1 2), .int (S.1 3), .int (S.1 4), .int (S.1 5), .int (S.1 6)]))], [(X 11, .inl (G.2.1 4, 5, .inr (.inr (.inr (.inr (refA 5 C))))))], [(X 12, .inl (G.2.1 0, 5, .inl S.2.2.2.2.2))], famW 5 (fun ι => chP G (C ι) (S.2.2.1 ι))]) (by decide) rfl (by decide) (by decide) dX8_ofCell_44 (⟨by simp only [qCell, if_pos h6], rfl⟩)
  · refine V_aload_n hC dX8_ofCell_12 0 rfl ?_
    refine V_get hC dX8_ofCell_13 inAX8 (mem_at 0 0 rfl rfl) rfl 5 (by decide) q277 rfl (v := .ref (X 10)) rfl ?_
    refine V_get hC dX8_ofCell_16 inAX2 (mem_at 1 0 rfl rfl) rfl 0 (by decide) q134 rfl (v := .ref (X 11)) rfl ?_
    refine V_iload_n hC dX8_ofCell_19 1 rfl ?_
    refine V_aald hC dX8_ofCell_20 4 rfl (mem_at 2 0 rfl rfl) (vp_in_nI (by omega) (by omega)) (x := i) (nI_clamp (by omega)) (b := (C i) 0) (refA_at (by omega)) ?_
    refine V_astore_n hC dX8_ofCell_21 (L' := [(3, .ref ((C i) 0)), (0, .ref (X 0)), (1, .int (nI i)), (2, .int (nI 7))]) (by decide) rfl ?_
    refine V_iload_n hC dX8_ofCell_22 3 rfl ?_
    refine V_if_neT hC dX8_ofCell_23 (tgt := 36) (by decide) (by decide) ?_
    refine V_aload_n hC dX8_ofCell_36 0 rfl ?_
    refine V_get hC dX8_ofCell_37 inAX1 (mem_fam 4 0 rfl i (by first | assumption | omega) rfl) rfl 0 (by decide) q100 rfl (v := .int (((S.2.2.1 i).1) 0)) rfl ?_
    refine V_if_ne hC dX8_ofCell_40 (tgt := 45) (by decide) (fun h7 => ?_) (fun h7 => ?_)
    · refine V_iload_n hC dX8_ofCell_45 3 rfl ?_
      refine V_tabOut hC dX8_ofCell_46 (by decide) (tgt := 111) (by decide) ?_
      refine V_aload_n hC dX8_ofCell_111 0 rfl ?_
      refine V_sub [4, 0, 1, 2, 3] (by decide) (u := [famW 5 (fun ι => chP G (C ι) (S.2.2.1 ι)), [(X 0, .inr (9, [.ref (X 1), .int (nI nb), .ref (X 2), .ref (X 6), .ref (X 8), .ref (X 10), .ref (X 14), .ref (X 18), .int (nI nl), .int du, .ref (X 19), .int mo, .ref (X 20), .int cl]))], [(X 10, .inr (3, [.ref (X 11), .ref (X 12), .ref (X 13), .int (nI S.2.1), .ref (O 0), .int (S.1 0), .int (S.1 1), .int (S.1 2), .int (S.1 3), .int (S.1 4), .int (S.1 5), .int (S.1 6)]))], [(X 11, .inl (G.2.1 4, 5, .inr (.inr (.inr (.inr (refA 5 C))))))], [(X 12, .inl (G.2.1 0, 5, .inl S.2.2.2.2.2))]]) rfl ?_
      refine V_open (i := i) (by omega) ?_
      refine V_calli hC (V_runV hC (rest := []) [] (k_X1_melt l G (C i) (S.2.2.1 i)) [0] rfl (by decide) q657 q518 q519 q24 q520 ⟨by decide, by decide, rfl⟩ ⟨by decide, by decide⟩ (ci := 2) rfl (mem_at 0 0 rfl rfl) rfl (Nat.le_of_ble_eq_true rfl) ⟨by decide, by decide⟩ dX8_ofCell_112) (is := [0]) rfl [1, 2, 3, 4, 5] (rs := [famX 5 i (fun ι => chP G (C ι) (S.2.2.1 ι)), [(X 0, .inr (9, [.ref (X 1), .int (nI nb), .ref (X 2), .ref (X 6), .ref (X 8), .ref (X 10), .ref (X 14), .ref (X 18), .int (nI nl), .int du, .ref (X 19), .int mo, .ref (X 20), .int cl]))], [(X 10, .inr (3, [.ref (X 11), .ref (X 12), .ref (X 13), .int (nI S.2.1), .ref (O 0), .int (S.1 0), .int (S.1 1), .int (S.1 2), .int (S.1 3), .int (S.1 4), .int (S.1 5), .int (S.1 6)]))], [(X 11, .inl (G.2.1 4, 5, .inr (.inr (.inr (.inr (refA 5 C))))))], [(X 12, .inl (G.2.1 0, 5, .inl S.2.2.2.2.2))]]) rfl (by decide) (by decide) ?_
      rintro _ _ ⟨rfl, rfl⟩
      refine V_close (i := i) (g' := fun ι => chP G (C ι) (S.2.2.1 ι)) (by omega) (rfl) (fun _ _ _ => rfl) ?_
      exact V_iret hC hQ hr [1, 2, 3, 4, 0] (u := [[(X 0, .inr (9, [.ref (X 1), .int (nI nb), .ref (X 2), .ref (X 6), .ref (X 8), .ref (X 10), .ref (X 14), .ref (X 18), .int (nI nl), .int du, .ref (X 19), .int mo, .ref (X 20), .int cl]))], [(X 10, .inr (3, [.ref (X 11), .ref (X 12), .ref (X 13), .int (nI S.2.1), .ref (O 0), .int (S.1 0), .int (S.1 1), .int (S.1 2), .int (S.1 3), .int (S.1 4), .int (S.1 5), .int (S.1 6)]))], [(X 11, .inl (G.2.1 4, 5, .inr (.inr (.inr (.inr (refA 5 C))))))], [(X 12, .inl (G.2.1 0, 5, .inl S.2.2.2.2.2))], famW 5 (fun ι => chP G (C ι) (S.2.2.1 ι))]) (by decide) rfl (by decide) (by decide) dX8_ofCell_115 (⟨by simp only [qCell, if_neg h7], rfl⟩)
    · refine V_iconst hC dX8_ofCell_43 (v := 0) (by decide) ?_
      exact V_iret hC hQ hr [0, 1, 2, 3, 4] (u := [[(X 0, .inr (9, [.ref (X 1), .int (nI nb), .ref (X 2), .ref (X 6), .ref (X 8), .ref (X 10), .ref (X 14), .ref (X 18), .int (nI nl), .int du, .ref (X 19), .int mo, .ref (X 20), .int cl]))], [(X 10, .inr (3, [.ref (X 11), .ref (X 12), .ref (X 13), .int (nI S.2.1), .ref (O 0), .int (S.1 0), .int (S.1 1), .int (S.1 2), .int (S.1 3), .int (S.1 4), .int (S.1 5), .int (S.1 6)]))], [(X 11, .inl (G.2.1 4, 5, .inr (.inr (.inr (.inr (refA 5 C))))))], [(X 12, .inl (G.2.1 0, 5, .inl S.2.2.2.2.2))], famW 5 (fun ι => chP G (C ι) (S.2.2.1 ι))]) (by decide) rfl (by decide) (by decide) dX8_ofCell_44 (⟨by simp only [qCell, if_pos h7], rfl⟩)
set_option maxHeartbeats 4000000 in
set_option maxRecDepth 100000 in
/-- ClinkerWorks.ofLot -/
theorem c_X8z_ofLot (l : Launch) (G : VG) (X : Nat → Nat) (nb nl : Nat) (du mo cl : Int32) (T : Nat → Nat → Nat) (lz : Nat → LV) (i w : Nat) (hnl : nl ≤ 12) (hi : i < nl) (hw : w ≤ 21) : Mi l G yX8_ofLot cX8_ofLot 5 .int 2 42 0 0 [.ref (X 0), .int (nI i), .int (nI w)] [[(X 0, .inr (9, [.ref (X 1), .int (nI nb), .ref (X 2), .ref (X 6), .ref (X 8), .ref (X 10), .ref (X 14), .ref (X 18), .int (nI nl), .int du, .ref (X 19), .int mo, .ref (X 20), .int cl]))], [(X 18, .inl (G.2.1 5, 12, .inr (.inr (.inr (.inr (refA 12 T))))))], famW 12 (fun ι => ltP G (T ι) (lz ι))] (fun r u => r = qLot (lz i) w ∧ u = [[(X 0, .inr (9, [.ref (X 1), .int (nI nb), .ref (X 2), .ref (X 6), .ref (X 8), .ref (X 10), .ref (X 14), .ref (X 18), .int (nI nl), .int du, .ref (X 19), .int mo, .ref (X 20), .int cl]))], [(X 18, .inl (G.2.1 5, 12, .inr (.inr (.inr (.inr (refA 12 T))))))], famW 12 (fun ι => ltP G (T ι) (lz ι))]) := by
  refine Mi_of (by decide) (Nat.le_of_ble_eq_true rfl) (fun pP eE sS mM aA bB tT cC AA QQ hC hr hnm hQ => ?_)
  refine V_iload_n hC dX8_ofLot_0 1 rfl ?_
  refine V_aload_n hC dX8_ofLot_1 0 rfl ?_
  refine V_get hC dX8_ofLot_2 inAX8 (mem_at 0 0 rfl rfl) rfl 8 (by decide) q280 rfl (v := .int (nI nl)) rfl ?_
  refine V_callv hC (V_runS hC (rest := []) [.int (nI i), .int (nI nl)] (c_X8z_needIndex l G (nI i) (nI nl) (ixB_in (N := nl) hi)) [] rfl (by decide) q542 q543 q20 q544 ⟨by decide, by decide, rfl⟩ ⟨by decide, by decide⟩ rfl (Nat.le_of_ble_eq_true rfl) ⟨by decide, by decide⟩ dX8_ofLot_5) (is := []) rfl [0, 1, 2] (rs := [[(X 0, .inr (9, [.ref (X 1), .int (nI nb), .ref (X 2), .ref (X 6), .ref (X 8), .ref (X 10), .ref (X 14), .ref (X 18), .int (nI nl), .int du, .ref (X 19), .int mo, .ref (X 20), .int cl]))], [(X 18, .inl (G.2.1 5, 12, .inr (.inr (.inr (.inr (refA 12 T))))))], famW 12 (fun ι => ltP G (T ι) (lz ι))]) rfl (by decide) (by decide) ?_
  rintro _ rfl
  refine V_iload_n hC dX8_ofLot_8 2 rfl ?_
  refine V_iconst hC dX8_ofLot_9 (v := 0) (by decide) ?_
  refine V_bipush hC dX8_ofLot_10 (v := 21) (by decide) ?_
  refine V_callv hC (V_runS hC (rest := []) [.int (nI w), .int 0, .int 21] (c_X8z_needArgument l G (nI w) 0 21 (inR_nI (M := 21) hw)) [] rfl (by decide) q319 q320 q20 q321 ⟨by decide, by decide, rfl⟩ ⟨by decide, by decide⟩ rfl (Nat.le_of_ble_eq_true rfl) ⟨by decide, by decide⟩ dX8_ofLot_12) (is := []) rfl [0, 1, 2] (rs := [[(X 0, .inr (9, [.ref (X 1), .int (nI nb), .ref (X 2), .ref (X 6), .ref (X 8), .ref (X 10), .ref (X 14), .ref (X 18), .int (nI nl), .int du, .ref (X 19), .int mo, .ref (X 20), .int cl]))], [(X 18, .inl (G.2.1 5, 12, .inr (.inr (.inr (.inr (refA 12 T))))))], famW 12 (fun ι => ltP G (T ι) (lz ι))]) rfl (by decide) (by decide) ?_
  rintro _ rfl
  rcases (show w = 0 ∨ w = 1 ∨ w = 2 ∨ w = 3 ∨ w = 4 ∨ w = 5 ∨ w = 6 ∨ w = 7 ∨ w = 8 ∨ w = 9 ∨ w = 10 ∨ w = 11 ∨ w = 12 ∨ w = 13 ∨ w = 14 ∨ w = 15 ∨ w = 16 ∨ w = 17 ∨ w = 18 ∨ w = 19 ∨ w = 20 ∨ w = 21 by omega) with rfl | rfl | rfl | rfl | rfl | rfl | rfl | rfl | rfl | rfl | rfl | rfl | rfl | rfl | rfl | rfl | rfl | rfl | rfl | rfl | rfl | rfl
  · refine V_aload_n hC dX8_ofLot_15 0 rfl ?_
    refine V_get hC dX8_ofLot_16 inAX8 (mem_at 0 0 rfl rfl) rfl 7 (by decide) q279 rfl (v := .ref (X 18)) rfl ?_
    refine V_iload_n hC dX8_ofLot_19 1 rfl ?_
    refine V_aald hC dX8_ofLot_20 5 rfl (mem_at 1 0 rfl rfl) (vp_in_nI (by omega) (by omega)) (x := i) (nI_clamp (by omega)) (b := (T i) 0) (refA_at (by omega)) ?_
    refine V_astore_n hC dX8_ofLot_21 (L' := [(3, .ref ((T i) 0)), (0, .ref (X 0)), (1, .int (nI i)), (2, .int (nI 0))]) (by decide) rfl ?_
    refine V_aload_n hC dX8_ofLot_22 0 rfl ?_
    refine V_get hC dX8_ofLot_23 inAX3 (mem_fam 2 0 rfl i (by first | assumption | omega) rfl) rfl 0 (by decide) q229 rfl (v := .ref ((T i) 2)) rfl ?_
    refine V_astore hC dX8_ofLot_26 (L' := [(4, .ref ((T i) 2)), (3, .ref ((T i) 0)), (0, .ref (X 0)), (1, .int (nI i)), (2, .int (nI 0))]) (by decide) rfl ?_
    refine V_iload_n hC dX8_ofLot_28 4 rfl ?_
    refine V_iconst hC dX8_ofLot_29 (v := 4) (by decide) ?_
    refine V_icmp_geF hC dX8_ofLot_30 (tgt := 44) (by decide) (by decide) ?_
    refine V_aload hC dX8_ofLot_33 0 rfl ?_
    refine V_get hC dX8_ofLot_35 inAX1 (mem_fam 2 2 rfl i (by first | assumption | omega) rfl) rfl 1 (by decide) q102 rfl (v := .ref ((T i) 3)) rfl ?_
    refine V_get hC dX8_ofLot_38 inAX4 (mem_fam 2 3 rfl i (by first | assumption | omega) rfl) rfl 0 (by decide) q79 rfl (v := .ref ((T i) 5)) rfl ?_
    refine V_iload_n hC dX8_ofLot_41 4 rfl ?_
    refine V_iald hC dX8_ofLot_42 (mem_fam 2 4 rfl i (by first | assumption | omega) rfl) (vin (by decide)) (x := 0) (by decide) ?_
    exact V_iret hC hQ hr [0, 1, 2] (u := [[(X 0, .inr (9, [.ref (X 1), .int (nI nb), .ref (X 2), .ref (X 6), .ref (X 8), .ref (X 10), .ref (X 14), .ref (X 18), .int (nI nl), .int du, .ref (X 19), .int mo, .ref (X 20), .int cl]))], [(X 18, .inl (G.2.1 5, 12, .inr (.inr (.inr (.inr (refA 12 T))))))], famW 12 (fun ι => ltP G (T ι) (lz ι))]) (by decide) rfl (by decide) (by decide) dX8_ofLot_43 (⟨rfl, rfl⟩)
  · refine V_aload_n hC dX8_ofLot_15 0 rfl ?_
    refine V_get hC dX8_ofLot_16 inAX8 (mem_at 0 0 rfl rfl) rfl 7 (by decide) q279 rfl (v := .ref (X 18)) rfl ?_
    refine V_iload_n hC dX8_ofLot_19 1 rfl ?_
    refine V_aald hC dX8_ofLot_20 5 rfl (mem_at 1 0 rfl rfl) (vp_in_nI (by omega) (by omega)) (x := i) (nI_clamp (by omega)) (b := (T i) 0) (refA_at (by omega)) ?_
    refine V_astore_n hC dX8_ofLot_21 (L' := [(3, .ref ((T i) 0)), (0, .ref (X 0)), (1, .int (nI i)), (2, .int (nI 1))]) (by decide) rfl ?_
    refine V_aload_n hC dX8_ofLot_22 0 rfl ?_
    refine V_get hC dX8_ofLot_23 inAX3 (mem_fam 2 0 rfl i (by first | assumption | omega) rfl) rfl 0 (by decide) q229 rfl (v := .ref ((T i) 2)) rfl ?_
    refine V_astore hC dX8_ofLot_26 (L' := [(4, .ref ((T i) 2)), (3, .ref ((T i) 0)), (0, .ref (X 0)), (1, .int (nI i)), (2, .int (nI 1))]) (by decide) rfl ?_
    refine V_iload_n hC dX8_ofLot_28 4 rfl ?_
    refine V_iconst hC dX8_ofLot_29 (v := 4) (by decide) ?_
    refine V_icmp_geF hC dX8_ofLot_30 (tgt := 44) (by decide) (by decide) ?_
    refine V_aload hC dX8_ofLot_33 0 rfl ?_
    refine V_get hC dX8_ofLot_35 inAX1 (mem_fam 2 2 rfl i (by first | assumption | omega) rfl) rfl 1 (by decide) q102 rfl (v := .ref ((T i) 3)) rfl ?_
    refine V_get hC dX8_ofLot_38 inAX4 (mem_fam 2 3 rfl i (by first | assumption | omega) rfl) rfl 0 (by decide) q79 rfl (v := .ref ((T i) 5)) rfl ?_
    refine V_iload_n hC dX8_ofLot_41 4 rfl ?_
    refine V_iald hC dX8_ofLot_42 (mem_fam 2 4 rfl i (by first | assumption | omega) rfl) (vin (by decide)) (x := 1) (by decide) ?_
    exact V_iret hC hQ hr [0, 1, 2] (u := [[(X 0, .inr (9, [.ref (X 1), .int (nI nb), .ref (X 2), .ref (X 6), .ref (X 8), .ref (X 10), .ref (X 14), .ref (X 18), .int (nI nl), .int du, .ref (X 19), .int mo, .ref (X 20), .int cl]))], [(X 18, .inl (G.2.1 5, 12, .inr (.inr (.inr (.inr (refA 12 T))))))], famW 12 (fun ι => ltP G (T ι) (lz ι))]) (by decide) rfl (by decide) (by decide) dX8_ofLot_43 (⟨rfl, rfl⟩)
  · refine V_aload_n hC dX8_ofLot_15 0 rfl ?_
    refine V_get hC dX8_ofLot_16 inAX8 (mem_at 0 0 rfl rfl) rfl 7 (by decide) q279 rfl (v := .ref (X 18)) rfl ?_
    refine V_iload_n hC dX8_ofLot_19 1 rfl ?_
    refine V_aald hC dX8_ofLot_20 5 rfl (mem_at 1 0 rfl rfl) (vp_in_nI (by omega) (by omega)) (x := i) (nI_clamp (by omega)) (b := (T i) 0) (refA_at (by omega)) ?_
    refine V_astore_n hC dX8_ofLot_21 (L' := [(3, .ref ((T i) 0)), (0, .ref (X 0)), (1, .int (nI i)), (2, .int (nI 2))]) (by decide) rfl ?_
    refine V_aload_n hC dX8_ofLot_22 0 rfl ?_
    refine V_get hC dX8_ofLot_23 inAX3 (mem_fam 2 0 rfl i (by first | assumption | omega) rfl) rfl 0 (by decide) q229 rfl (v := .ref ((T i) 2)) rfl ?_
    refine V_astore hC dX8_ofLot_26 (L' := [(4, .ref ((T i) 2)), (3, .ref ((T i) 0)), (0, .ref (X 0)), (1, .int (nI i)), (2, .int (nI 2))]) (by decide) rfl ?_
    refine V_iload_n hC dX8_ofLot_28 4 rfl ?_
    refine V_iconst hC dX8_ofLot_29 (v := 4) (by decide) ?_
    refine V_icmp_geF hC dX8_ofLot_30 (tgt := 44) (by decide) (by decide) ?_
    refine V_aload hC dX8_ofLot_33 0 rfl ?_
    refine V_get hC dX8_ofLot_35 inAX1 (mem_fam 2 2 rfl i (by first | assumption | omega) rfl) rfl 1 (by decide) q102 rfl (v := .ref ((T i) 3)) rfl ?_
    refine V_get hC dX8_ofLot_38 inAX4 (mem_fam 2 3 rfl i (by first | assumption | omega) rfl) rfl 0 (by decide) q79 rfl (v := .ref ((T i) 5)) rfl ?_
    refine V_iload_n hC dX8_ofLot_41 4 rfl ?_
    refine V_iald hC dX8_ofLot_42 (mem_fam 2 4 rfl i (by first | assumption | omega) rfl) (vin (by decide)) (x := 2) (by decide) ?_
    exact V_iret hC hQ hr [0, 1, 2] (u := [[(X 0, .inr (9, [.ref (X 1), .int (nI nb), .ref (X 2), .ref (X 6), .ref (X 8), .ref (X 10), .ref (X 14), .ref (X 18), .int (nI nl), .int du, .ref (X 19), .int mo, .ref (X 20), .int cl]))], [(X 18, .inl (G.2.1 5, 12, .inr (.inr (.inr (.inr (refA 12 T))))))], famW 12 (fun ι => ltP G (T ι) (lz ι))]) (by decide) rfl (by decide) (by decide) dX8_ofLot_43 (⟨rfl, rfl⟩)
  · refine V_aload_n hC dX8_ofLot_15 0 rfl ?_
    refine V_get hC dX8_ofLot_16 inAX8 (mem_at 0 0 rfl rfl) rfl 7 (by decide) q279 rfl (v := .ref (X 18)) rfl ?_
    refine V_iload_n hC dX8_ofLot_19 1 rfl ?_
    refine V_aald hC dX8_ofLot_20 5 rfl (mem_at 1 0 rfl rfl) (vp_in_nI (by omega) (by omega)) (x := i) (nI_clamp (by omega)) (b := (T i) 0) (refA_at (by omega)) ?_
    refine V_astore_n hC dX8_ofLot_21 (L' := [(3, .ref ((T i) 0)), (0, .ref (X 0)), (1, .int (nI i)), (2, .int (nI 3))]) (by decide) rfl ?_
    refine V_aload_n hC dX8_ofLot_22 0 rfl ?_
    refine V_get hC dX8_ofLot_23 inAX3 (mem_fam 2 0 rfl i (by first | assumption | omega) rfl) rfl 0 (by decide) q229 rfl (v := .ref ((T i) 2)) rfl ?_
    refine V_astore hC dX8_ofLot_26 (L' := [(4, .ref ((T i) 2)), (3, .ref ((T i) 0)), (0, .ref (X 0)), (1, .int (nI i)), (2, .int (nI 3))]) (by decide) rfl ?_
    refine V_iload_n hC dX8_ofLot_28 4 rfl ?_
    refine V_iconst hC dX8_ofLot_29 (v := 4) (by decide) ?_
    refine V_icmp_geF hC dX8_ofLot_30 (tgt := 44) (by decide) (by decide) ?_
    refine V_aload hC dX8_ofLot_33 0 rfl ?_
    refine V_get hC dX8_ofLot_35 inAX1 (mem_fam 2 2 rfl i (by first | assumption | omega) rfl) rfl 1 (by decide) q102 rfl (v := .ref ((T i) 3)) rfl ?_
    refine V_get hC dX8_ofLot_38 inAX4 (mem_fam 2 3 rfl i (by first | assumption | omega) rfl) rfl 0 (by decide) q79 rfl (v := .ref ((T i) 5)) rfl ?_
    refine V_iload_n hC dX8_ofLot_41 4 rfl ?_
    refine V_iald hC dX8_ofLot_42 (mem_fam 2 4 rfl i (by first | assumption | omega) rfl) (vin (by decide)) (x := 3) (by decide) ?_
    exact V_iret hC hQ hr [0, 1, 2] (u := [[(X 0, .inr (9, [.ref (X 1), .int (nI nb), .ref (X 2), .ref (X 6), .ref (X 8), .ref (X 10), .ref (X 14), .ref (X 18), .int (nI nl), .int du, .ref (X 19), .int mo, .ref (X 20), .int cl]))], [(X 18, .inl (G.2.1 5, 12, .inr (.inr (.inr (.inr (refA 12 T))))))], famW 12 (fun ι => ltP G (T ι) (lz ι))]) (by decide) rfl (by decide) (by decide) dX8_ofLot_43 (⟨rfl, rfl⟩)
  · refine V_aload_n hC dX8_ofLot_15 0 rfl ?_
    refine V_get hC dX8_ofLot_16 inAX8 (mem_at 0 0 rfl rfl) rfl 7 (by decide) q279 rfl (v := .ref (X 18)) rfl ?_
    refine V_iload_n hC dX8_ofLot_19 1 rfl ?_
    refine V_aald hC dX8_ofLot_20 5 rfl (mem_at 1 0 rfl rfl) (vp_in_nI (by omega) (by omega)) (x := i) (nI_clamp (by omega)) (b := (T i) 0) (refA_at (by omega)) ?_
    refine V_astore_n hC dX8_ofLot_21 (L' := [(3, .ref ((T i) 0)), (0, .ref (X 0)), (1, .int (nI i)), (2, .int (nI 4))]) (by decide) rfl ?_
    refine V_aload_n hC dX8_ofLot_22 0 rfl ?_
    refine V_get hC dX8_ofLot_23 inAX3 (mem_fam 2 0 rfl i (by first | assumption | omega) rfl) rfl 0 (by decide) q229 rfl (v := .ref ((T i) 2)) rfl ?_
    refine V_astore hC dX8_ofLot_26 (L' := [(4, .ref ((T i) 2)), (3, .ref ((T i) 0)), (0, .ref (X 0)), (1, .int (nI i)), (2, .int (nI 4))]) (by decide) rfl ?_
    refine V_iload_n hC dX8_ofLot_28 4 rfl ?_
    refine V_iconst hC dX8_ofLot_29 (v := 4) (by decide) ?_
    refine V_icmp_geT hC dX8_ofLot_30 (tgt := 44) (by decide) (by decide) ?_
    refine V_iload_n hC dX8_ofLot_44 4 rfl ?_
    refine V_bipush hC dX8_ofLot_45 (v := 16) (by decide) ?_
    refine V_icmp_ltT hC dX8_ofLot_47 (tgt := 61) (by decide) (by decide) ?_
    refine V_iload_n hC dX8_ofLot_61 4 rfl ?_
    refine V_bipush hC dX8_ofLot_62 (v := 13) (by decide) ?_
    refine V_icmp_ltT hC dX8_ofLot_64 (tgt := 77) (by decide) (by decide) ?_
    refine V_iload_n hC dX8_ofLot_77 4 rfl ?_
    refine V_tabIn hC dX8_ofLot_78 (by decide) (by decide) (off := 46) (by decide) (tgt := 124) (by decide) ?_
    refine V_aload hC dX8_ofLot_124 0 rfl ?_
    refine V_get hC dX8_ofLot_126 inAX1 (mem_fam 2 2 rfl i (by first | assumption | omega) rfl) rfl 3 (by decide) q107 rfl (v := .int ((((lz i).2.2).1) 1)) rfl ?_
    exact V_iret hC hQ hr [0, 1, 2] (u := [[(X 0, .inr (9, [.ref (X 1), .int (nI nb), .ref (X 2), .ref (X 6), .ref (X 8), .ref (X 10), .ref (X 14), .ref (X 18), .int (nI nl), .int du, .ref (X 19), .int mo, .ref (X 20), .int cl]))], [(X 18, .inl (G.2.1 5, 12, .inr (.inr (.inr (.inr (refA 12 T))))))], famW 12 (fun ι => ltP G (T ι) (lz ι))]) (by decide) rfl (by decide) (by decide) dX8_ofLot_129 (⟨rfl, rfl⟩)
  · refine V_aload_n hC dX8_ofLot_15 0 rfl ?_
    refine V_get hC dX8_ofLot_16 inAX8 (mem_at 0 0 rfl rfl) rfl 7 (by decide) q279 rfl (v := .ref (X 18)) rfl ?_
    refine V_iload_n hC dX8_ofLot_19 1 rfl ?_
    refine V_aald hC dX8_ofLot_20 5 rfl (mem_at 1 0 rfl rfl) (vp_in_nI (by omega) (by omega)) (x := i) (nI_clamp (by omega)) (b := (T i) 0) (refA_at (by omega)) ?_
    refine V_astore_n hC dX8_ofLot_21 (L' := [(3, .ref ((T i) 0)), (0, .ref (X 0)), (1, .int (nI i)), (2, .int (nI 5))]) (by decide) rfl ?_
    refine V_aload_n hC dX8_ofLot_22 0 rfl ?_
    refine V_get hC dX8_ofLot_23 inAX3 (mem_fam 2 0 rfl i (by first | assumption | omega) rfl) rfl 0 (by decide) q229 rfl (v := .ref ((T i) 2)) rfl ?_
    refine V_astore hC dX8_ofLot_26 (L' := [(4, .ref ((T i) 2)), (3, .ref ((T i) 0)), (0, .ref (X 0)), (1, .int (nI i)), (2, .int (nI 5))]) (by decide) rfl ?_
    refine V_iload_n hC dX8_ofLot_28 4 rfl ?_
    refine V_iconst hC dX8_ofLot_29 (v := 4) (by decide) ?_
    refine V_icmp_geT hC dX8_ofLot_30 (tgt := 44) (by decide) (by decide) ?_
    refine V_iload_n hC dX8_ofLot_44 4 rfl ?_
    refine V_bipush hC dX8_ofLot_45 (v := 16) (by decide) ?_
    refine V_icmp_ltT hC dX8_ofLot_47 (tgt := 61) (by decide) (by decide) ?_
    refine V_iload_n hC dX8_ofLot_61 4 rfl ?_
    refine V_bipush hC dX8_ofLot_62 (v := 13) (by decide) ?_
    refine V_icmp_ltT hC dX8_ofLot_64 (tgt := 77) (by decide) (by decide) ?_
    refine V_iload_n hC dX8_ofLot_77 4 rfl ?_
    refine V_tabIn hC dX8_ofLot_78 (by decide) (by decide) (off := 52) (by decide) (tgt := 130) (by decide) ?_
    refine V_aload hC dX8_ofLot_130 0 rfl ?_
    refine V_get hC dX8_ofLot_132 inAX1 (mem_fam 2 2 rfl i (by first | assumption | omega) rfl) rfl 4 (by decide) q109 rfl (v := .int ((((lz i).2.2).1) 2)) rfl ?_
    exact V_iret hC hQ hr [0, 1, 2] (u := [[(X 0, .inr (9, [.ref (X 1), .int (nI nb), .ref (X 2), .ref (X 6), .ref (X 8), .ref (X 10), .ref (X 14), .ref (X 18), .int (nI nl), .int du, .ref (X 19), .int mo, .ref (X 20), .int cl]))], [(X 18, .inl (G.2.1 5, 12, .inr (.inr (.inr (.inr (refA 12 T))))))], famW 12 (fun ι => ltP G (T ι) (lz ι))]) (by decide) rfl (by decide) (by decide) dX8_ofLot_135 (⟨rfl, rfl⟩)
  · refine V_aload_n hC dX8_ofLot_15 0 rfl ?_
    refine V_get hC dX8_ofLot_16 inAX8 (mem_at 0 0 rfl rfl) rfl 7 (by decide) q279 rfl (v := .ref (X 18)) rfl ?_
    refine V_iload_n hC dX8_ofLot_19 1 rfl ?_
    refine V_aald hC dX8_ofLot_20 5 rfl (mem_at 1 0 rfl rfl) (vp_in_nI (by omega) (by omega)) (x := i) (nI_clamp (by omega)) (b := (T i) 0) (refA_at (by omega)) ?_
    refine V_astore_n hC dX8_ofLot_21 (L' := [(3, .ref ((T i) 0)), (0, .ref (X 0)), (1, .int (nI i)), (2, .int (nI 6))]) (by decide) rfl ?_
    refine V_aload_n hC dX8_ofLot_22 0 rfl ?_
    refine V_get hC dX8_ofLot_23 inAX3 (mem_fam 2 0 rfl i (by first | assumption | omega) rfl) rfl 0 (by decide) q229 rfl (v := .ref ((T i) 2)) rfl ?_
    refine V_astore hC dX8_ofLot_26 (L' := [(4, .ref ((T i) 2)), (3, .ref ((T i) 0)), (0, .ref (X 0)), (1, .int (nI i)), (2, .int (nI 6))]) (by decide) rfl ?_
    refine V_iload_n hC dX8_ofLot_28 4 rfl ?_
    refine V_iconst hC dX8_ofLot_29 (v := 4) (by decide) ?_
    refine V_icmp_geT hC dX8_ofLot_30 (tgt := 44) (by decide) (by decide) ?_
    refine V_iload_n hC dX8_ofLot_44 4 rfl ?_
    refine V_bipush hC dX8_ofLot_45 (v := 16) (by decide) ?_
    refine V_icmp_ltT hC dX8_ofLot_47 (tgt := 61) (by decide) (by decide) ?_
    refine V_iload_n hC dX8_ofLot_61 4 rfl ?_
    refine V_bipush hC dX8_ofLot_62 (v := 13) (by decide) ?_
    refine V_icmp_ltT hC dX8_ofLot_64 (tgt := 77) (by decide) (by decide) ?_
    refine V_iload_n hC dX8_ofLot_77 4 rfl ?_
    refine V_tabIn hC dX8_ofLot_78 (by decide) (by decide) (off := 58) (by decide) (tgt := 136) (by decide) ?_
    refine V_aload hC dX8_ofLot_136 0 rfl ?_
    refine V_get hC dX8_ofLot_138 inAX1 (mem_fam 2 2 rfl i (by first | assumption | omega) rfl) rfl 5 (by decide) q111 rfl (v := .int ((((lz i).2.2).1) 3)) rfl ?_
    exact V_iret hC hQ hr [0, 1, 2] (u := [[(X 0, .inr (9, [.ref (X 1), .int (nI nb), .ref (X 2), .ref (X 6), .ref (X 8), .ref (X 10), .ref (X 14), .ref (X 18), .int (nI nl), .int du, .ref (X 19), .int mo, .ref (X 20), .int cl]))], [(X 18, .inl (G.2.1 5, 12, .inr (.inr (.inr (.inr (refA 12 T))))))], famW 12 (fun ι => ltP G (T ι) (lz ι))]) (by decide) rfl (by decide) (by decide) dX8_ofLot_141 (⟨rfl, rfl⟩)
  · refine V_aload_n hC dX8_ofLot_15 0 rfl ?_
    refine V_get hC dX8_ofLot_16 inAX8 (mem_at 0 0 rfl rfl) rfl 7 (by decide) q279 rfl (v := .ref (X 18)) rfl ?_
    refine V_iload_n hC dX8_ofLot_19 1 rfl ?_
    refine V_aald hC dX8_ofLot_20 5 rfl (mem_at 1 0 rfl rfl) (vp_in_nI (by omega) (by omega)) (x := i) (nI_clamp (by omega)) (b := (T i) 0) (refA_at (by omega)) ?_
    refine V_astore_n hC dX8_ofLot_21 (L' := [(3, .ref ((T i) 0)), (0, .ref (X 0)), (1, .int (nI i)), (2, .int (nI 7))]) (by decide) rfl ?_
    refine V_aload_n hC dX8_ofLot_22 0 rfl ?_
    refine V_get hC dX8_ofLot_23 inAX3 (mem_fam 2 0 rfl i (by first | assumption | omega) rfl) rfl 0 (by decide) q229 rfl (v := .ref ((T i) 2)) rfl ?_
    refine V_astore hC dX8_ofLot_26 (L' := [(4, .ref ((T i) 2)), (3, .ref ((T i) 0)), (0, .ref (X 0)), (1, .int (nI i)), (2, .int (nI 7))]) (by decide) rfl ?_
    refine V_iload_n hC dX8_ofLot_28 4 rfl ?_
    refine V_iconst hC dX8_ofLot_29 (v := 4) (by decide) ?_
    refine V_icmp_geT hC dX8_ofLot_30 (tgt := 44) (by decide) (by decide) ?_
    refine V_iload_n hC dX8_ofLot_44 4 rfl ?_
    refine V_bipush hC dX8_ofLot_45 (v := 16) (by decide) ?_
    refine V_icmp_ltT hC dX8_ofLot_47 (tgt := 61) (by decide) (by decide) ?_
    refine V_iload_n hC dX8_ofLot_61 4 rfl ?_
    refine V_bipush hC dX8_ofLot_62 (v := 13) (by decide) ?_
    refine V_icmp_ltT hC dX8_ofLot_64 (tgt := 77) (by decide) (by decide) ?_
    refine V_iload_n hC dX8_ofLot_77 4 rfl ?_
    refine V_tabIn hC dX8_ofLot_78 (by decide) (by decide) (off := 64) (by decide) (tgt := 142) (by decide) ?_
    refine V_aload hC dX8_ofLot_142 0 rfl ?_
    refine V_get hC dX8_ofLot_144 inAX1 (mem_fam 2 2 rfl i (by first | assumption | omega) rfl) rfl 6 (by decide) q113 rfl (v := .int ((((lz i).2.2).1) 4)) rfl ?_
    exact V_iret hC hQ hr [0, 1, 2] (u := [[(X 0, .inr (9, [.ref (X 1), .int (nI nb), .ref (X 2), .ref (X 6), .ref (X 8), .ref (X 10), .ref (X 14), .ref (X 18), .int (nI nl), .int du, .ref (X 19), .int mo, .ref (X 20), .int cl]))], [(X 18, .inl (G.2.1 5, 12, .inr (.inr (.inr (.inr (refA 12 T))))))], famW 12 (fun ι => ltP G (T ι) (lz ι))]) (by decide) rfl (by decide) (by decide) dX8_ofLot_147 (⟨rfl, rfl⟩)
  · refine V_aload_n hC dX8_ofLot_15 0 rfl ?_
    refine V_get hC dX8_ofLot_16 inAX8 (mem_at 0 0 rfl rfl) rfl 7 (by decide) q279 rfl (v := .ref (X 18)) rfl ?_
    refine V_iload_n hC dX8_ofLot_19 1 rfl ?_
    refine V_aald hC dX8_ofLot_20 5 rfl (mem_at 1 0 rfl rfl) (vp_in_nI (by omega) (by omega)) (x := i) (nI_clamp (by omega)) (b := (T i) 0) (refA_at (by omega)) ?_
    refine V_astore_n hC dX8_ofLot_21 (L' := [(3, .ref ((T i) 0)), (0, .ref (X 0)), (1, .int (nI i)), (2, .int (nI 8))]) (by decide) rfl ?_
    refine V_aload_n hC dX8_ofLot_22 0 rfl ?_
    refine V_get hC dX8_ofLot_23 inAX3 (mem_fam 2 0 rfl i (by first | assumption | omega) rfl) rfl 0 (by decide) q229 rfl (v := .ref ((T i) 2)) rfl ?_
    refine V_astore hC dX8_ofLot_26 (L' := [(4, .ref ((T i) 2)), (3, .ref ((T i) 0)), (0, .ref (X 0)), (1, .int (nI i)), (2, .int (nI 8))]) (by decide) rfl ?_
    refine V_iload_n hC dX8_ofLot_28 4 rfl ?_
    refine V_iconst hC dX8_ofLot_29 (v := 4) (by decide) ?_
    refine V_icmp_geT hC dX8_ofLot_30 (tgt := 44) (by decide) (by decide) ?_
    refine V_iload_n hC dX8_ofLot_44 4 rfl ?_
    refine V_bipush hC dX8_ofLot_45 (v := 16) (by decide) ?_
    refine V_icmp_ltT hC dX8_ofLot_47 (tgt := 61) (by decide) (by decide) ?_
    refine V_iload_n hC dX8_ofLot_61 4 rfl ?_
    refine V_bipush hC dX8_ofLot_62 (v := 13) (by decide) ?_
    refine V_icmp_ltT hC dX8_ofLot_64 (tgt := 77) (by decide) (by decide) ?_
    refine V_iload_n hC dX8_ofLot_77 4 rfl ?_
    refine V_tabIn hC dX8_ofLot_78 (by decide) (by decide) (off := 70) (by decide) (tgt := 148) (by decide) ?_
    refine V_aload hC dX8_ofLot_148 0 rfl ?_
    refine V_get hC dX8_ofLot_150 inAX1 (mem_fam 2 2 rfl i (by first | assumption | omega) rfl) rfl 7 (by decide) q115 rfl (v := .int ((((lz i).2.2).1) 5)) rfl ?_
    exact V_iret hC hQ hr [0, 1, 2] (u := [[(X 0, .inr (9, [.ref (X 1), .int (nI nb), .ref (X 2), .ref (X 6), .ref (X 8), .ref (X 10), .ref (X 14), .ref (X 18), .int (nI nl), .int du, .ref (X 19), .int mo, .ref (X 20), .int cl]))], [(X 18, .inl (G.2.1 5, 12, .inr (.inr (.inr (.inr (refA 12 T))))))], famW 12 (fun ι => ltP G (T ι) (lz ι))]) (by decide) rfl (by decide) (by decide) dX8_ofLot_153 (⟨rfl, rfl⟩)
  · refine V_aload_n hC dX8_ofLot_15 0 rfl ?_
    refine V_get hC dX8_ofLot_16 inAX8 (mem_at 0 0 rfl rfl) rfl 7 (by decide) q279 rfl (v := .ref (X 18)) rfl ?_
    refine V_iload_n hC dX8_ofLot_19 1 rfl ?_
    refine V_aald hC dX8_ofLot_20 5 rfl (mem_at 1 0 rfl rfl) (vp_in_nI (by omega) (by omega)) (x := i) (nI_clamp (by omega)) (b := (T i) 0) (refA_at (by omega)) ?_
    refine V_astore_n hC dX8_ofLot_21 (L' := [(3, .ref ((T i) 0)), (0, .ref (X 0)), (1, .int (nI i)), (2, .int (nI 9))]) (by decide) rfl ?_
    refine V_aload_n hC dX8_ofLot_22 0 rfl ?_
    refine V_get hC dX8_ofLot_23 inAX3 (mem_fam 2 0 rfl i (by first | assumption | omega) rfl) rfl 0 (by decide) q229 rfl (v := .ref ((T i) 2)) rfl ?_
    refine V_astore hC dX8_ofLot_26 (L' := [(4, .ref ((T i) 2)), (3, .ref ((T i) 0)), (0, .ref (X 0)), (1, .int (nI i)), (2, .int (nI 9))]) (by decide) rfl ?_
    refine V_iload_n hC dX8_ofLot_28 4 rfl ?_
    refine V_iconst hC dX8_ofLot_29 (v := 4) (by decide) ?_
    refine V_icmp_geT hC dX8_ofLot_30 (tgt := 44) (by decide) (by decide) ?_
    refine V_iload_n hC dX8_ofLot_44 4 rfl ?_
    refine V_bipush hC dX8_ofLot_45 (v := 16) (by decide) ?_
    refine V_icmp_ltT hC dX8_ofLot_47 (tgt := 61) (by decide) (by decide) ?_
    refine V_iload_n hC dX8_ofLot_61 4 rfl ?_
    refine V_bipush hC dX8_ofLot_62 (v := 13) (by decide) ?_
    refine V_icmp_ltT hC dX8_ofLot_64 (tgt := 77) (by decide) (by decide) ?_
    refine V_iload_n hC dX8_ofLot_77 4 rfl ?_
    refine V_tabIn hC dX8_ofLot_78 (by decide) (by decide) (off := 76) (by decide) (tgt := 154) (by decide) ?_
    refine V_aload_n hC dX8_ofLot_154 1 rfl ?_
    refine V_get hC dX8_ofLot_155 inAX3 (mem_fam 2 0 rfl i (by first | assumption | omega) rfl) rfl 1 (by decide) q231 rfl (v := .int (((lz i).1) 0)) rfl ?_
    exact V_iret hC hQ hr [0, 1, 2] (u := [[(X 0, .inr (9, [.ref (X 1), .int (nI nb), .ref (X 2), .ref (X 6), .ref (X 8), .ref (X 10), .ref (X 14), .ref (X 18), .int (nI nl), .int du, .ref (X 19), .int mo, .ref (X 20), .int cl]))], [(X 18, .inl (G.2.1 5, 12, .inr (.inr (.inr (.inr (refA 12 T))))))], famW 12 (fun ι => ltP G (T ι) (lz ι))]) (by decide) rfl (by decide) (by decide) dX8_ofLot_158 (⟨rfl, rfl⟩)
  · refine V_aload_n hC dX8_ofLot_15 0 rfl ?_
    refine V_get hC dX8_ofLot_16 inAX8 (mem_at 0 0 rfl rfl) rfl 7 (by decide) q279 rfl (v := .ref (X 18)) rfl ?_
    refine V_iload_n hC dX8_ofLot_19 1 rfl ?_
    refine V_aald hC dX8_ofLot_20 5 rfl (mem_at 1 0 rfl rfl) (vp_in_nI (by omega) (by omega)) (x := i) (nI_clamp (by omega)) (b := (T i) 0) (refA_at (by omega)) ?_
    refine V_astore_n hC dX8_ofLot_21 (L' := [(3, .ref ((T i) 0)), (0, .ref (X 0)), (1, .int (nI i)), (2, .int (nI 10))]) (by decide) rfl ?_
    refine V_aload_n hC dX8_ofLot_22 0 rfl ?_
    refine V_get hC dX8_ofLot_23 inAX3 (mem_fam 2 0 rfl i (by first | assumption | omega) rfl) rfl 0 (by decide) q229 rfl (v := .ref ((T i) 2)) rfl ?_
    refine V_astore hC dX8_ofLot_26 (L' := [(4, .ref ((T i) 2)), (3, .ref ((T i) 0)), (0, .ref (X 0)), (1, .int (nI i)), (2, .int (nI 10))]) (by decide) rfl ?_
    refine V_iload_n hC dX8_ofLot_28 4 rfl ?_
    refine V_iconst hC dX8_ofLot_29 (v := 4) (by decide) ?_
    refine V_icmp_geT hC dX8_ofLot_30 (tgt := 44) (by decide) (by decide) ?_
    refine V_iload_n hC dX8_ofLot_44 4 rfl ?_
    refine V_bipush hC dX8_ofLot_45 (v := 16) (by decide) ?_
    refine V_icmp_ltT hC dX8_ofLot_47 (tgt := 61) (by decide) (by decide) ?_
    refine V_iload_n hC dX8_ofLot_61 4 rfl ?_
    refine V_bipush hC dX8_ofLot_62 (v := 13) (by decide) ?_
    refine V_icmp_ltT hC dX8_ofLot_64 (tgt := 77) (by decide) (by decide) ?_
    refine V_iload_n hC dX8_ofLot_77 4 rfl ?_
    refine V_tabIn hC dX8_ofLot_78 (by decide) (by decide) (off := 81) (by decide) (tgt := 159) (by decide) ?_
    refine V_aload_n hC dX8_ofLot_159 1 rfl ?_
    refine V_get hC dX8_ofLot_160 inAX3 (mem_fam 2 0 rfl i (by first | assumption | omega) rfl) rfl 2 (by decide) q233 rfl (v := .int (((lz i).1) 1)) rfl ?_
    exact V_iret hC hQ hr [0, 1, 2] (u := [[(X 0, .inr (9, [.ref (X 1), .int (nI nb), .ref (X 2), .ref (X 6), .ref (X 8), .ref (X 10), .ref (X 14), .ref (X 18), .int (nI nl), .int du, .ref (X 19), .int mo, .ref (X 20), .int cl]))], [(X 18, .inl (G.2.1 5, 12, .inr (.inr (.inr (.inr (refA 12 T))))))], famW 12 (fun ι => ltP G (T ι) (lz ι))]) (by decide) rfl (by decide) (by decide) dX8_ofLot_163 (⟨rfl, rfl⟩)
  · refine V_aload_n hC dX8_ofLot_15 0 rfl ?_
    refine V_get hC dX8_ofLot_16 inAX8 (mem_at 0 0 rfl rfl) rfl 7 (by decide) q279 rfl (v := .ref (X 18)) rfl ?_
    refine V_iload_n hC dX8_ofLot_19 1 rfl ?_
    refine V_aald hC dX8_ofLot_20 5 rfl (mem_at 1 0 rfl rfl) (vp_in_nI (by omega) (by omega)) (x := i) (nI_clamp (by omega)) (b := (T i) 0) (refA_at (by omega)) ?_
    refine V_astore_n hC dX8_ofLot_21 (L' := [(3, .ref ((T i) 0)), (0, .ref (X 0)), (1, .int (nI i)), (2, .int (nI 11))]) (by decide) rfl ?_
    refine V_aload_n hC dX8_ofLot_22 0 rfl ?_
    refine V_get hC dX8_ofLot_23 inAX3 (mem_fam 2 0 rfl i (by first | assumption | omega) rfl) rfl 0 (by decide) q229 rfl (v := .ref ((T i) 2)) rfl ?_
    refine V_astore hC dX8_ofLot_26 (L' := [(4, .ref ((T i) 2)), (3, .ref ((T i) 0)), (0, .ref (X 0)), (1, .int (nI i)), (2, .int (nI 11))]) (by decide) rfl ?_
    refine V_iload_n hC dX8_ofLot_28 4 rfl ?_
    refine V_iconst hC dX8_ofLot_29 (v := 4) (by decide) ?_
    refine V_icmp_geT hC dX8_ofLot_30 (tgt := 44) (by decide) (by decide) ?_
    refine V_iload_n hC dX8_ofLot_44 4 rfl ?_
    refine V_bipush hC dX8_ofLot_45 (v := 16) (by decide) ?_
    refine V_icmp_ltT hC dX8_ofLot_47 (tgt := 61) (by decide) (by decide) ?_
    refine V_iload_n hC dX8_ofLot_61 4 rfl ?_
    refine V_bipush hC dX8_ofLot_62 (v := 13) (by decide) ?_
    refine V_icmp_ltT hC dX8_ofLot_64 (tgt := 77) (by decide) (by decide) ?_
    refine V_iload_n hC dX8_ofLot_77 4 rfl ?_
    refine V_tabIn hC dX8_ofLot_78 (by decide) (by decide) (off := 86) (by decide) (tgt := 164) (by decide) ?_
    refine V_aload_n hC dX8_ofLot_164 1 rfl ?_
    refine V_get hC dX8_ofLot_165 inAX3 (mem_fam 2 0 rfl i (by first | assumption | omega) rfl) rfl 3 (by decide) q235 rfl (v := .int (((lz i).1) 2)) rfl ?_
    exact V_iret hC hQ hr [0, 1, 2] (u := [[(X 0, .inr (9, [.ref (X 1), .int (nI nb), .ref (X 2), .ref (X 6), .ref (X 8), .ref (X 10), .ref (X 14), .ref (X 18), .int (nI nl), .int du, .ref (X 19), .int mo, .ref (X 20), .int cl]))], [(X 18, .inl (G.2.1 5, 12, .inr (.inr (.inr (.inr (refA 12 T))))))], famW 12 (fun ι => ltP G (T ι) (lz ι))]) (by decide) rfl (by decide) (by decide) dX8_ofLot_168 (⟨rfl, rfl⟩)
  · refine V_aload_n hC dX8_ofLot_15 0 rfl ?_
    refine V_get hC dX8_ofLot_16 inAX8 (mem_at 0 0 rfl rfl) rfl 7 (by decide) q279 rfl (v := .ref (X 18)) rfl ?_
    refine V_iload_n hC dX8_ofLot_19 1 rfl ?_
    refine V_aald hC dX8_ofLot_20 5 rfl (mem_at 1 0 rfl rfl) (vp_in_nI (by omega) (by omega)) (x := i) (nI_clamp (by omega)) (b := (T i) 0) (refA_at (by omega)) ?_
    refine V_astore_n hC dX8_ofLot_21 (L' := [(3, .ref ((T i) 0)), (0, .ref (X 0)), (1, .int (nI i)), (2, .int (nI 12))]) (by decide) rfl ?_
    refine V_aload_n hC dX8_ofLot_22 0 rfl ?_
    refine V_get hC dX8_ofLot_23 inAX3 (mem_fam 2 0 rfl i (by first | assumption | omega) rfl) rfl 0 (by decide) q229 rfl (v := .ref ((T i) 2)) rfl ?_
    refine V_astore hC dX8_ofLot_26 (L' := [(4, .ref ((T i) 2)), (3, .ref ((T i) 0)), (0, .ref (X 0)), (1, .int (nI i)), (2, .int (nI 12))]) (by decide) rfl ?_
    refine V_iload_n hC dX8_ofLot_28 4 rfl ?_
    refine V_iconst hC dX8_ofLot_29 (v := 4) (by decide) ?_
    refine V_icmp_geT hC dX8_ofLot_30 (tgt := 44) (by decide) (by decide) ?_
    refine V_iload_n hC dX8_ofLot_44 4 rfl ?_
    refine V_bipush hC dX8_ofLot_45 (v := 16) (by decide) ?_
    refine V_icmp_ltT hC dX8_ofLot_47 (tgt := 61) (by decide) (by decide) ?_
    refine V_iload_n hC dX8_ofLot_61 4 rfl ?_
    refine V_bipush hC dX8_ofLot_62 (v := 13) (by decide) ?_
    refine V_icmp_ltT hC dX8_ofLot_64 (tgt := 77) (by decide) (by decide) ?_
    refine V_iload_n hC dX8_ofLot_77 4 rfl ?_
    refine V_tabOut hC dX8_ofLot_78 (by decide) (tgt := 169) (by decide) ?_
    refine V_aload_n hC dX8_ofLot_169 1 rfl ?_
    refine V_get hC dX8_ofLot_170 inAX3 (mem_fam 2 0 rfl i (by first | assumption | omega) rfl) rfl 5 (by decide) q238 rfl (v := .int (((lz i).1) 4)) rfl ?_
    exact V_iret hC hQ hr [0, 1, 2] (u := [[(X 0, .inr (9, [.ref (X 1), .int (nI nb), .ref (X 2), .ref (X 6), .ref (X 8), .ref (X 10), .ref (X 14), .ref (X 18), .int (nI nl), .int du, .ref (X 19), .int mo, .ref (X 20), .int cl]))], [(X 18, .inl (G.2.1 5, 12, .inr (.inr (.inr (.inr (refA 12 T))))))], famW 12 (fun ι => ltP G (T ι) (lz ι))]) (by decide) rfl (by decide) (by decide) dX8_ofLot_173 (⟨rfl, rfl⟩)
  · refine V_aload_n hC dX8_ofLot_15 0 rfl ?_
    refine V_get hC dX8_ofLot_16 inAX8 (mem_at 0 0 rfl rfl) rfl 7 (by decide) q279 rfl (v := .ref (X 18)) rfl ?_
    refine V_iload_n hC dX8_ofLot_19 1 rfl ?_
    refine V_aald hC dX8_ofLot_20 5 rfl (mem_at 1 0 rfl rfl) (vp_in_nI (by omega) (by omega)) (x := i) (nI_clamp (by omega)) (b := (T i) 0) (refA_at (by omega)) ?_
    refine V_astore_n hC dX8_ofLot_21 (L' := [(3, .ref ((T i) 0)), (0, .ref (X 0)), (1, .int (nI i)), (2, .int (nI 13))]) (by decide) rfl ?_
    refine V_aload_n hC dX8_ofLot_22 0 rfl ?_
    refine V_get hC dX8_ofLot_23 inAX3 (mem_fam 2 0 rfl i (by first | assumption | omega) rfl) rfl 0 (by decide) q229 rfl (v := .ref ((T i) 2)) rfl ?_
    refine V_astore hC dX8_ofLot_26 (L' := [(4, .ref ((T i) 2)), (3, .ref ((T i) 0)), (0, .ref (X 0)), (1, .int (nI i)), (2, .int (nI 13))]) (by decide) rfl ?_
    refine V_iload_n hC dX8_ofLot_28 4 rfl ?_
    refine V_iconst hC dX8_ofLot_29 (v := 4) (by decide) ?_
    refine V_icmp_geT hC dX8_ofLot_30 (tgt := 44) (by decide) (by decide) ?_
    refine V_iload_n hC dX8_ofLot_44 4 rfl ?_
    refine V_bipush hC dX8_ofLot_45 (v := 16) (by decide) ?_
    refine V_icmp_ltT hC dX8_ofLot_47 (tgt := 61) (by decide) (by decide) ?_
    refine V_iload_n hC dX8_ofLot_61 4 rfl ?_
    refine V_bipush hC dX8_ofLot_62 (v := 13) (by decide) ?_
    refine V_icmp_ltF hC dX8_ofLot_64 (tgt := 77) (by decide) (by decide) ?_
    refine V_aload_n hC dX8_ofLot_67 1 rfl ?_
    refine V_get hC dX8_ofLot_68 inAX3 (mem_fam 2 0 rfl i (by first | assumption | omega) rfl) rfl 6 (by decide) q240 rfl (v := .ref ((T i) 1)) rfl ?_
    refine V_iload_n hC dX8_ofLot_71 4 rfl ?_
    refine V_bipush hC dX8_ofLot_72 (v := 13) (by decide) ?_
    refine V_isub hC dX8_ofLot_74 ?_
    refine V_eqi (y := 0) (by decide) ?_
    refine V_iald hC dX8_ofLot_75 (mem_fam 2 1 rfl i (by first | assumption | omega) rfl) (vin (by decide)) (x := 0) (by decide) ?_
    exact V_iret hC hQ hr [0, 1, 2] (u := [[(X 0, .inr (9, [.ref (X 1), .int (nI nb), .ref (X 2), .ref (X 6), .ref (X 8), .ref (X 10), .ref (X 14), .ref (X 18), .int (nI nl), .int du, .ref (X 19), .int mo, .ref (X 20), .int cl]))], [(X 18, .inl (G.2.1 5, 12, .inr (.inr (.inr (.inr (refA 12 T))))))], famW 12 (fun ι => ltP G (T ι) (lz ι))]) (by decide) rfl (by decide) (by decide) dX8_ofLot_76 (⟨rfl, rfl⟩)
  · refine V_aload_n hC dX8_ofLot_15 0 rfl ?_
    refine V_get hC dX8_ofLot_16 inAX8 (mem_at 0 0 rfl rfl) rfl 7 (by decide) q279 rfl (v := .ref (X 18)) rfl ?_
    refine V_iload_n hC dX8_ofLot_19 1 rfl ?_
    refine V_aald hC dX8_ofLot_20 5 rfl (mem_at 1 0 rfl rfl) (vp_in_nI (by omega) (by omega)) (x := i) (nI_clamp (by omega)) (b := (T i) 0) (refA_at (by omega)) ?_
    refine V_astore_n hC dX8_ofLot_21 (L' := [(3, .ref ((T i) 0)), (0, .ref (X 0)), (1, .int (nI i)), (2, .int (nI 14))]) (by decide) rfl ?_
    refine V_aload_n hC dX8_ofLot_22 0 rfl ?_
    refine V_get hC dX8_ofLot_23 inAX3 (mem_fam 2 0 rfl i (by first | assumption | omega) rfl) rfl 0 (by decide) q229 rfl (v := .ref ((T i) 2)) rfl ?_
    refine V_astore hC dX8_ofLot_26 (L' := [(4, .ref ((T i) 2)), (3, .ref ((T i) 0)), (0, .ref (X 0)), (1, .int (nI i)), (2, .int (nI 14))]) (by decide) rfl ?_
    refine V_iload_n hC dX8_ofLot_28 4 rfl ?_
    refine V_iconst hC dX8_ofLot_29 (v := 4) (by decide) ?_
    refine V_icmp_geT hC dX8_ofLot_30 (tgt := 44) (by decide) (by decide) ?_
    refine V_iload_n hC dX8_ofLot_44 4 rfl ?_
    refine V_bipush hC dX8_ofLot_45 (v := 16) (by decide) ?_
    refine V_icmp_ltT hC dX8_ofLot_47 (tgt := 61) (by decide) (by decide) ?_
    refine V_iload_n hC dX8_ofLot_61 4 rfl ?_
    refine V_bipush hC dX8_ofLot_62 (v := 13) (by decide) ?_
    refine V_icmp_ltF hC dX8_ofLot_64 (tgt := 77) (by decide) (by decide) ?_
    refine V_aload_n hC dX8_ofLot_67 1 rfl ?_
    refine V_get hC dX8_ofLot_68 inAX3 (mem_fam 2 0 rfl i (by first | assumption | omega) rfl) rfl 6 (by decide) q240 rfl (v := .ref ((T i) 1)) rfl ?_
    refine V_iload_n hC dX8_ofLot_71 4 rfl ?_
    refine V_bipush hC dX8_ofLot_72 (v := 13) (by decide) ?_
    refine V_isub hC dX8_ofLot_74 ?_
    refine V_eqi (y := 1) (by decide) ?_
    refine V_iald hC dX8_ofLot_75 (mem_fam 2 1 rfl i (by first | assumption | omega) rfl) (vin (by decide)) (x := 1) (by decide) ?_
    exact V_iret hC hQ hr [0, 1, 2] (u := [[(X 0, .inr (9, [.ref (X 1), .int (nI nb), .ref (X 2), .ref (X 6), .ref (X 8), .ref (X 10), .ref (X 14), .ref (X 18), .int (nI nl), .int du, .ref (X 19), .int mo, .ref (X 20), .int cl]))], [(X 18, .inl (G.2.1 5, 12, .inr (.inr (.inr (.inr (refA 12 T))))))], famW 12 (fun ι => ltP G (T ι) (lz ι))]) (by decide) rfl (by decide) (by decide) dX8_ofLot_76 (⟨rfl, rfl⟩)
  · refine V_aload_n hC dX8_ofLot_15 0 rfl ?_
    refine V_get hC dX8_ofLot_16 inAX8 (mem_at 0 0 rfl rfl) rfl 7 (by decide) q279 rfl (v := .ref (X 18)) rfl ?_
    refine V_iload_n hC dX8_ofLot_19 1 rfl ?_
    refine V_aald hC dX8_ofLot_20 5 rfl (mem_at 1 0 rfl rfl) (vp_in_nI (by omega) (by omega)) (x := i) (nI_clamp (by omega)) (b := (T i) 0) (refA_at (by omega)) ?_
    refine V_astore_n hC dX8_ofLot_21 (L' := [(3, .ref ((T i) 0)), (0, .ref (X 0)), (1, .int (nI i)), (2, .int (nI 15))]) (by decide) rfl ?_
    refine V_aload_n hC dX8_ofLot_22 0 rfl ?_
    refine V_get hC dX8_ofLot_23 inAX3 (mem_fam 2 0 rfl i (by first | assumption | omega) rfl) rfl 0 (by decide) q229 rfl (v := .ref ((T i) 2)) rfl ?_
    refine V_astore hC dX8_ofLot_26 (L' := [(4, .ref ((T i) 2)), (3, .ref ((T i) 0)), (0, .ref (X 0)), (1, .int (nI i)), (2, .int (nI 15))]) (by decide) rfl ?_
    refine V_iload_n hC dX8_ofLot_28 4 rfl ?_
    refine V_iconst hC dX8_ofLot_29 (v := 4) (by decide) ?_
    refine V_icmp_geT hC dX8_ofLot_30 (tgt := 44) (by decide) (by decide) ?_
    refine V_iload_n hC dX8_ofLot_44 4 rfl ?_
    refine V_bipush hC dX8_ofLot_45 (v := 16) (by decide) ?_
    refine V_icmp_ltT hC dX8_ofLot_47 (tgt := 61) (by decide) (by decide) ?_
    refine V_iload_n hC dX8_ofLot_61 4 rfl ?_
    refine V_bipush hC dX8_ofLot_62 (v := 13) (by decide) ?_
    refine V_icmp_ltF hC dX8_ofLot_64 (tgt := 77) (by decide) (by decide) ?_
    refine V_aload_n hC dX8_ofLot_67 1 rfl ?_
    refine V_get hC dX8_ofLot_68 inAX3 (mem_fam 2 0 rfl i (by first | assumption | omega) rfl) rfl 6 (by decide) q240 rfl (v := .ref ((T i) 1)) rfl ?_
    refine V_iload_n hC dX8_ofLot_71 4 rfl ?_
    refine V_bipush hC dX8_ofLot_72 (v := 13) (by decide) ?_
    refine V_isub hC dX8_ofLot_74 ?_
    refine V_eqi (y := 2) (by decide) ?_
    refine V_iald hC dX8_ofLot_75 (mem_fam 2 1 rfl i (by first | assumption | omega) rfl) (vin (by decide)) (x := 2) (by decide) ?_
    exact V_iret hC hQ hr [0, 1, 2] (u := [[(X 0, .inr (9, [.ref (X 1), .int (nI nb), .ref (X 2), .ref (X 6), .ref (X 8), .ref (X 10), .ref (X 14), .ref (X 18), .int (nI nl), .int du, .ref (X 19), .int mo, .ref (X 20), .int cl]))], [(X 18, .inl (G.2.1 5, 12, .inr (.inr (.inr (.inr (refA 12 T))))))], famW 12 (fun ι => ltP G (T ι) (lz ι))]) (by decide) rfl (by decide) (by decide) dX8_ofLot_76 (⟨rfl, rfl⟩)
  · refine V_aload_n hC dX8_ofLot_15 0 rfl ?_
    refine V_get hC dX8_ofLot_16 inAX8 (mem_at 0 0 rfl rfl) rfl 7 (by decide) q279 rfl (v := .ref (X 18)) rfl ?_
    refine V_iload_n hC dX8_ofLot_19 1 rfl ?_
    refine V_aald hC dX8_ofLot_20 5 rfl (mem_at 1 0 rfl rfl) (vp_in_nI (by omega) (by omega)) (x := i) (nI_clamp (by omega)) (b := (T i) 0) (refA_at (by omega)) ?_
    refine V_astore_n hC dX8_ofLot_21 (L' := [(3, .ref ((T i) 0)), (0, .ref (X 0)), (1, .int (nI i)), (2, .int (nI 16))]) (by decide) rfl ?_
    refine V_aload_n hC dX8_ofLot_22 0 rfl ?_
    refine V_get hC dX8_ofLot_23 inAX3 (mem_fam 2 0 rfl i (by first | assumption | omega) rfl) rfl 0 (by decide) q229 rfl (v := .ref ((T i) 2)) rfl ?_
    refine V_astore hC dX8_ofLot_26 (L' := [(4, .ref ((T i) 2)), (3, .ref ((T i) 0)), (0, .ref (X 0)), (1, .int (nI i)), (2, .int (nI 16))]) (by decide) rfl ?_
    refine V_iload_n hC dX8_ofLot_28 4 rfl ?_
    refine V_iconst hC dX8_ofLot_29 (v := 4) (by decide) ?_
    refine V_icmp_geT hC dX8_ofLot_30 (tgt := 44) (by decide) (by decide) ?_
    refine V_iload_n hC dX8_ofLot_44 4 rfl ?_
    refine V_bipush hC dX8_ofLot_45 (v := 16) (by decide) ?_
    refine V_icmp_ltF hC dX8_ofLot_47 (tgt := 61) (by decide) (by decide) ?_
    refine V_aload hC dX8_ofLot_50 0 rfl ?_
    refine V_get hC dX8_ofLot_52 inAX1 (mem_fam 2 2 rfl i (by first | assumption | omega) rfl) rfl 2 (by decide) q104 rfl (v := .ref ((T i) 4)) rfl ?_
    refine V_iload_n hC dX8_ofLot_55 4 rfl ?_
    refine V_bipush hC dX8_ofLot_56 (v := 16) (by decide) ?_
    refine V_isub hC dX8_ofLot_58 ?_
    refine V_eqi (y := 0) (by decide) ?_
    refine V_iald hC dX8_ofLot_59 (mem_fam 2 5 rfl i (by first | assumption | omega) rfl) (vin (by decide)) (x := 0) (by decide) ?_
    exact V_iret hC hQ hr [0, 1, 2] (u := [[(X 0, .inr (9, [.ref (X 1), .int (nI nb), .ref (X 2), .ref (X 6), .ref (X 8), .ref (X 10), .ref (X 14), .ref (X 18), .int (nI nl), .int du, .ref (X 19), .int mo, .ref (X 20), .int cl]))], [(X 18, .inl (G.2.1 5, 12, .inr (.inr (.inr (.inr (refA 12 T))))))], famW 12 (fun ι => ltP G (T ι) (lz ι))]) (by decide) rfl (by decide) (by decide) dX8_ofLot_60 (⟨rfl, rfl⟩)
  · refine V_aload_n hC dX8_ofLot_15 0 rfl ?_
    refine V_get hC dX8_ofLot_16 inAX8 (mem_at 0 0 rfl rfl) rfl 7 (by decide) q279 rfl (v := .ref (X 18)) rfl ?_
    refine V_iload_n hC dX8_ofLot_19 1 rfl ?_
    refine V_aald hC dX8_ofLot_20 5 rfl (mem_at 1 0 rfl rfl) (vp_in_nI (by omega) (by omega)) (x := i) (nI_clamp (by omega)) (b := (T i) 0) (refA_at (by omega)) ?_
    refine V_astore_n hC dX8_ofLot_21 (L' := [(3, .ref ((T i) 0)), (0, .ref (X 0)), (1, .int (nI i)), (2, .int (nI 17))]) (by decide) rfl ?_
    refine V_aload_n hC dX8_ofLot_22 0 rfl ?_
    refine V_get hC dX8_ofLot_23 inAX3 (mem_fam 2 0 rfl i (by first | assumption | omega) rfl) rfl 0 (by decide) q229 rfl (v := .ref ((T i) 2)) rfl ?_
    refine V_astore hC dX8_ofLot_26 (L' := [(4, .ref ((T i) 2)), (3, .ref ((T i) 0)), (0, .ref (X 0)), (1, .int (nI i)), (2, .int (nI 17))]) (by decide) rfl ?_
    refine V_iload_n hC dX8_ofLot_28 4 rfl ?_
    refine V_iconst hC dX8_ofLot_29 (v := 4) (by decide) ?_
    refine V_icmp_geT hC dX8_ofLot_30 (tgt := 44) (by decide) (by decide) ?_
    refine V_iload_n hC dX8_ofLot_44 4 rfl ?_
    refine V_bipush hC dX8_ofLot_45 (v := 16) (by decide) ?_
    refine V_icmp_ltF hC dX8_ofLot_47 (tgt := 61) (by decide) (by decide) ?_
    refine V_aload hC dX8_ofLot_50 0 rfl ?_
    refine V_get hC dX8_ofLot_52 inAX1 (mem_fam 2 2 rfl i (by first | assumption | omega) rfl) rfl 2 (by decide) q104 rfl (v := .ref ((T i) 4)) rfl ?_
    refine V_iload_n hC dX8_ofLot_55 4 rfl ?_
    refine V_bipush hC dX8_ofLot_56 (v := 16) (by decide) ?_
    refine V_isub hC dX8_ofLot_58 ?_
    refine V_eqi (y := 1) (by decide) ?_
    refine V_iald hC dX8_ofLot_59 (mem_fam 2 5 rfl i (by first | assumption | omega) rfl) (vin (by decide)) (x := 1) (by decide) ?_
    exact V_iret hC hQ hr [0, 1, 2] (u := [[(X 0, .inr (9, [.ref (X 1), .int (nI nb), .ref (X 2), .ref (X 6), .ref (X 8), .ref (X 10), .ref (X 14), .ref (X 18), .int (nI nl), .int du, .ref (X 19), .int mo, .ref (X 20), .int cl]))], [(X 18, .inl (G.2.1 5, 12, .inr (.inr (.inr (.inr (refA 12 T))))))], famW 12 (fun ι => ltP G (T ι) (lz ι))]) (by decide) rfl (by decide) (by decide) dX8_ofLot_60 (⟨rfl, rfl⟩)
  · refine V_aload_n hC dX8_ofLot_15 0 rfl ?_
    refine V_get hC dX8_ofLot_16 inAX8 (mem_at 0 0 rfl rfl) rfl 7 (by decide) q279 rfl (v := .ref (X 18)) rfl ?_
    refine V_iload_n hC dX8_ofLot_19 1 rfl ?_
    refine V_aald hC dX8_ofLot_20 5 rfl (mem_at 1 0 rfl rfl) (vp_in_nI (by omega) (by omega)) (x := i) (nI_clamp (by omega)) (b := (T i) 0) (refA_at (by omega)) ?_
    refine V_astore_n hC dX8_ofLot_21 (L' := [(3, .ref ((T i) 0)), (0, .ref (X 0)), (1, .int (nI i)), (2, .int (nI 18))]) (by decide) rfl ?_
    refine V_aload_n hC dX8_ofLot_22 0 rfl ?_
    refine V_get hC dX8_ofLot_23 inAX3 (mem_fam 2 0 rfl i (by first | assumption | omega) rfl) rfl 0 (by decide) q229 rfl (v := .ref ((T i) 2)) rfl ?_
    refine V_astore hC dX8_ofLot_26 (L' := [(4, .ref ((T i) 2)), (3, .ref ((T i) 0)), (0, .ref (X 0)), (1, .int (nI i)), (2, .int (nI 18))]) (by decide) rfl ?_
    refine V_iload_n hC dX8_ofLot_28 4 rfl ?_
    refine V_iconst hC dX8_ofLot_29 (v := 4) (by decide) ?_
    refine V_icmp_geT hC dX8_ofLot_30 (tgt := 44) (by decide) (by decide) ?_
    refine V_iload_n hC dX8_ofLot_44 4 rfl ?_
    refine V_bipush hC dX8_ofLot_45 (v := 16) (by decide) ?_
    refine V_icmp_ltF hC dX8_ofLot_47 (tgt := 61) (by decide) (by decide) ?_
    refine V_aload hC dX8_ofLot_50 0 rfl ?_
    refine V_get hC dX8_ofLot_52 inAX1 (mem_fam 2 2 rfl i (by first | assumption | omega) rfl) rfl 2 (by decide) q104 rfl (v := .ref ((T i) 4)) rfl ?_
    refine V_iload_n hC dX8_ofLot_55 4 rfl ?_
    refine V_bipush hC dX8_ofLot_56 (v := 16) (by decide) ?_
    refine V_isub hC dX8_ofLot_58 ?_
    refine V_eqi (y := 2) (by decide) ?_
    refine V_iald hC dX8_ofLot_59 (mem_fam 2 5 rfl i (by first | assumption | omega) rfl) (vin (by decide)) (x := 2) (by decide) ?_
    exact V_iret hC hQ hr [0, 1, 2] (u := [[(X 0, .inr (9, [.ref (X 1), .int (nI nb), .ref (X 2), .ref (X 6), .ref (X 8), .ref (X 10), .ref (X 14), .ref (X 18), .int (nI nl), .int du, .ref (X 19), .int mo, .ref (X 20), .int cl]))], [(X 18, .inl (G.2.1 5, 12, .inr (.inr (.inr (.inr (refA 12 T))))))], famW 12 (fun ι => ltP G (T ι) (lz ι))]) (by decide) rfl (by decide) (by decide) dX8_ofLot_60 (⟨rfl, rfl⟩)
  · refine V_aload_n hC dX8_ofLot_15 0 rfl ?_
    refine V_get hC dX8_ofLot_16 inAX8 (mem_at 0 0 rfl rfl) rfl 7 (by decide) q279 rfl (v := .ref (X 18)) rfl ?_
    refine V_iload_n hC dX8_ofLot_19 1 rfl ?_
    refine V_aald hC dX8_ofLot_20 5 rfl (mem_at 1 0 rfl rfl) (vp_in_nI (by omega) (by omega)) (x := i) (nI_clamp (by omega)) (b := (T i) 0) (refA_at (by omega)) ?_
    refine V_astore_n hC dX8_ofLot_21 (L' := [(3, .ref ((T i) 0)), (0, .ref (X 0)), (1, .int (nI i)), (2, .int (nI 19))]) (by decide) rfl ?_
    refine V_aload_n hC dX8_ofLot_22 0 rfl ?_
    refine V_get hC dX8_ofLot_23 inAX3 (mem_fam 2 0 rfl i (by first | assumption | omega) rfl) rfl 0 (by decide) q229 rfl (v := .ref ((T i) 2)) rfl ?_
    refine V_astore hC dX8_ofLot_26 (L' := [(4, .ref ((T i) 2)), (3, .ref ((T i) 0)), (0, .ref (X 0)), (1, .int (nI i)), (2, .int (nI 19))]) (by decide) rfl ?_
    refine V_iload_n hC dX8_ofLot_28 4 rfl ?_
    refine V_iconst hC dX8_ofLot_29 (v := 4) (by decide) ?_
    refine V_icmp_geT hC dX8_ofLot_30 (tgt := 44) (by decide) (by decide) ?_
    refine V_iload_n hC dX8_ofLot_44 4 rfl ?_
    refine V_bipush hC dX8_ofLot_45 (v := 16) (by decide) ?_
    refine V_icmp_ltF hC dX8_ofLot_47 (tgt := 61) (by decide) (by decide) ?_
    refine V_aload hC dX8_ofLot_50 0 rfl ?_
    refine V_get hC dX8_ofLot_52 inAX1 (mem_fam 2 2 rfl i (by first | assumption | omega) rfl) rfl 2 (by decide) q104 rfl (v := .ref ((T i) 4)) rfl ?_
    refine V_iload_n hC dX8_ofLot_55 4 rfl ?_
    refine V_bipush hC dX8_ofLot_56 (v := 16) (by decide) ?_
    refine V_isub hC dX8_ofLot_58 ?_
    refine V_eqi (y := 3) (by decide) ?_
    refine V_iald hC dX8_ofLot_59 (mem_fam 2 5 rfl i (by first | assumption | omega) rfl) (vin (by decide)) (x := 3) (by decide) ?_
    exact V_iret hC hQ hr [0, 1, 2] (u := [[(X 0, .inr (9, [.ref (X 1), .int (nI nb), .ref (X 2), .ref (X 6), .ref (X 8), .ref (X 10), .ref (X 14), .ref (X 18), .int (nI nl), .int du, .ref (X 19), .int mo, .ref (X 20), .int cl]))], [(X 18, .inl (G.2.1 5, 12, .inr (.inr (.inr (.inr (refA 12 T))))))], famW 12 (fun ι => ltP G (T ι) (lz ι))]) (by decide) rfl (by decide) (by decide) dX8_ofLot_60 (⟨rfl, rfl⟩)
  · refine V_aload_n hC dX8_ofLot_15 0 rfl ?_
    refine V_get hC dX8_ofLot_16 inAX8 (mem_at 0 0 rfl rfl) rfl 7 (by decide) q279 rfl (v := .ref (X 18)) rfl ?_
    refine V_iload_n hC dX8_ofLot_19 1 rfl ?_
    refine V_aald hC dX8_ofLot_20 5 rfl (mem_at 1 0 rfl rfl) (vp_in_nI (by omega) (by omega)) (x := i) (nI_clamp (by omega)) (b := (T i) 0) (refA_at (by omega)) ?_
    refine V_astore_n hC dX8_ofLot_21 (L' := [(3, .ref ((T i) 0)), (0, .ref (X 0)), (1, .int (nI i)), (2, .int (nI 20))]) (by decide) rfl ?_
    refine V_aload_n hC dX8_ofLot_22 0 rfl ?_
    refine V_get hC dX8_ofLot_23 inAX3 (mem_fam 2 0 rfl i (by first | assumption | omega) rfl) rfl 0 (by decide) q229 rfl (v := .ref ((T i) 2)) rfl ?_
    refine V_astore hC dX8_ofLot_26 (L' := [(4, .ref ((T i) 2)), (3, .ref ((T i) 0)), (0, .ref (X 0)), (1, .int (nI i)), (2, .int (nI 20))]) (by decide) rfl ?_
    refine V_iload_n hC dX8_ofLot_28 4 rfl ?_
    refine V_iconst hC dX8_ofLot_29 (v := 4) (by decide) ?_
    refine V_icmp_geT hC dX8_ofLot_30 (tgt := 44) (by decide) (by decide) ?_
    refine V_iload_n hC dX8_ofLot_44 4 rfl ?_
    refine V_bipush hC dX8_ofLot_45 (v := 16) (by decide) ?_
    refine V_icmp_ltF hC dX8_ofLot_47 (tgt := 61) (by decide) (by decide) ?_
    refine V_aload hC dX8_ofLot_50 0 rfl ?_
    refine V_get hC dX8_ofLot_52 inAX1 (mem_fam 2 2 rfl i (by first | assumption | omega) rfl) rfl 2 (by decide) q104 rfl (v := .ref ((T i) 4)) rfl ?_
    refine V_iload_n hC dX8_ofLot_55 4 rfl ?_
    refine V_bipush hC dX8_ofLot_56 (v := 16) (by decide) ?_
    refine V_isub hC dX8_ofLot_58 ?_
    refine V_eqi (y := 4) (by decide) ?_
    refine V_iald hC dX8_ofLot_59 (mem_fam 2 5 rfl i (by first | assumption | omega) rfl) (vin (by decide)) (x := 4) (by decide) ?_
    exact V_iret hC hQ hr [0, 1, 2] (u := [[(X 0, .inr (9, [.ref (X 1), .int (nI nb), .ref (X 2), .ref (X 6), .ref (X 8), .ref (X 10), .ref (X 14), .ref (X 18), .int (nI nl), .int du, .ref (X 19), .int mo, .ref (X 20), .int cl]))], [(X 18, .inl (G.2.1 5, 12, .inr (.inr (.inr (.inr (refA 12 T))))))], famW 12 (fun ι => ltP G (T ι) (lz ι))]) (by decide) rfl (by decide) (by decide) dX8_ofLot_60 (⟨rfl, rfl⟩)
  · refine V_aload_n hC dX8_ofLot_15 0 rfl ?_
    refine V_get hC dX8_ofLot_16 inAX8 (mem_at 0 0 rfl rfl) rfl 7 (by decide) q279 rfl (v := .ref (X 18)) rfl ?_
    refine V_iload_n hC dX8_ofLot_19 1 rfl ?_
    refine V_aald hC dX8_ofLot_20 5 rfl (mem_at 1 0 rfl rfl) (vp_in_nI (by omega) (by omega)) (x := i) (nI_clamp (by omega)) (b := (T i) 0) (refA_at (by omega)) ?_
    refine V_astore_n hC dX8_ofLot_21 (L' := [(3, .ref ((T i) 0)), (0, .ref (X 0)), (1, .int (nI i)), (2, .int (nI 21))]) (by decide) rfl ?_
    refine V_aload_n hC dX8_ofLot_22 0 rfl ?_
    refine V_get hC dX8_ofLot_23 inAX3 (mem_fam 2 0 rfl i (by first | assumption | omega) rfl) rfl 0 (by decide) q229 rfl (v := .ref ((T i) 2)) rfl ?_
    refine V_astore hC dX8_ofLot_26 (L' := [(4, .ref ((T i) 2)), (3, .ref ((T i) 0)), (0, .ref (X 0)), (1, .int (nI i)), (2, .int (nI 21))]) (by decide) rfl ?_
    refine V_iload_n hC dX8_ofLot_28 4 rfl ?_
    refine V_iconst hC dX8_ofLot_29 (v := 4) (by decide) ?_
    refine V_icmp_geT hC dX8_ofLot_30 (tgt := 44) (by decide) (by decide) ?_
    refine V_iload_n hC dX8_ofLot_44 4 rfl ?_
    refine V_bipush hC dX8_ofLot_45 (v := 16) (by decide) ?_
    refine V_icmp_ltF hC dX8_ofLot_47 (tgt := 61) (by decide) (by decide) ?_
    refine V_aload hC dX8_ofLot_50 0 rfl ?_
    refine V_get hC dX8_ofLot_52 inAX1 (mem_fam 2 2 rfl i (by first | assumption | omega) rfl) rfl 2 (by decide) q104 rfl (v := .ref ((T i) 4)) rfl ?_
    refine V_iload_n hC dX8_ofLot_55 4 rfl ?_
    refine V_bipush hC dX8_ofLot_56 (v := 16) (by decide) ?_
    refine V_isub hC dX8_ofLot_58 ?_
    refine V_eqi (y := 5) (by decide) ?_
    refine V_iald hC dX8_ofLot_59 (mem_fam 2 5 rfl i (by first | assumption | omega) rfl) (vin (by decide)) (x := 5) (by decide) ?_
    exact V_iret hC hQ hr [0, 1, 2] (u := [[(X 0, .inr (9, [.ref (X 1), .int (nI nb), .ref (X 2), .ref (X 6), .ref (X 8), .ref (X 10), .ref (X 14), .ref (X 18), .int (nI nl), .int du, .ref (X 19), .int mo, .ref (X 20), .int cl]))], [(X 18, .inl (G.2.1 5, 12, .inr (.inr (.inr (.inr (refA 12 T))))))], famW 12 (fun ι => ltP G (T ι) (lz ι))]) (by decide) rfl (by decide) (by decide) dX8_ofLot_60 (⟨rfl, rfl⟩)
set_option maxHeartbeats 4000000 in
set_option maxRecDepth 100000 in
/-- ClinkerWorks.modulus -/
theorem c_X8z_modulus (l : Launch) (G : VG) (X : Nat → Nat) (nb nl : Nat) (du mo cl : Int32) (W : Nat → Nat → Nat) (O : Nat → Nat) (S : KS) (i w : Nat) (hq3 : S.2.1 ≤ 3) (hi : i < S.2.1) (hw : w ≤ 3) : Mi l G yX8_modulus cX8_modulus 4 .int 3 61 0 0 [.ref (X 0), .int (nI i), .int (nI w)] [[(X 0, .inr (9, [.ref (X 1), .int (nI nb), .ref (X 2), .ref (X 6), .ref (X 8), .ref (X 10), .ref (X 14), .ref (X 18), .int (nI nl), .int du, .ref (X 19), .int mo, .ref (X 20), .int cl]))], [(X 10, .inr (3, [.ref (X 11), .ref (X 12), .ref (X 13), .int (nI S.2.1), .ref (O 0), .int (S.1 0), .int (S.1 1), .int (S.1 2), .int (S.1 3), .int (S.1 4), .int (S.1 5), .int (S.1 6)]))], [(X 13, .inl (G.2.1 4, 3, .inr (.inr (.inr (.inr (refA 3 W))))))], famW 3 (fun ι => chP G (W ι) (S.2.2.2.1 ι))] (fun r u => r = qMod (S.2.2.2.1 i).2.1 w ∧ u = [[(X 0, .inr (9, [.ref (X 1), .int (nI nb), .ref (X 2), .ref (X 6), .ref (X 8), .ref (X 10), .ref (X 14), .ref (X 18), .int (nI nl), .int du, .ref (X 19), .int mo, .ref (X 20), .int cl]))], [(X 10, .inr (3, [.ref (X 11), .ref (X 12), .ref (X 13), .int (nI S.2.1), .ref (O 0), .int (S.1 0), .int (S.1 1), .int (S.1 2), .int (S.1 3), .int (S.1 4), .int (S.1 5), .int (S.1 6)]))], [(X 13, .inl (G.2.1 4, 3, .inr (.inr (.inr (.inr (refA 3 W))))))], famW 3 (fun ι => chP G (W ι) (S.2.2.2.1 ι))]) := by
  refine Mi_of (by decide) (Nat.le_of_ble_eq_true rfl) (fun pP eE sS mM aA bB tT cC AA QQ hC hr hnm hQ => ?_)
  refine V_iload_n hC dX8_modulus_0 1 rfl ?_
  refine V_aload_n hC dX8_modulus_1 0 rfl ?_
  refine V_get hC dX8_modulus_2 inAX8 (mem_at 0 0 rfl rfl) rfl 5 (by decide) q277 rfl (v := .ref (X 10)) rfl ?_
  refine V_get hC dX8_modulus_5 inAX2 (mem_at 1 0 rfl rfl) rfl 3 (by decide) q140 rfl (v := .int (nI S.2.1)) rfl ?_
  refine V_callv hC (V_runS hC (rest := []) [.int (nI i), .int (nI S.2.1)] (c_X8z_needIndex l G (nI i) (nI S.2.1) (ixB_in (N := S.2.1) hi)) [] rfl (by decide) q542 q543 q20 q544 ⟨by decide, by decide, rfl⟩ ⟨by decide, by decide⟩ rfl (Nat.le_of_ble_eq_true rfl) ⟨by decide, by decide⟩ dX8_modulus_8) (is := []) rfl [0, 1, 2, 3] (rs := [[(X 0, .inr (9, [.ref (X 1), .int (nI nb), .ref (X 2), .ref (X 6), .ref (X 8), .ref (X 10), .ref (X 14), .ref (X 18), .int (nI nl), .int du, .ref (X 19), .int mo, .ref (X 20), .int cl]))], [(X 10, .inr (3, [.ref (X 11), .ref (X 12), .ref (X 13), .int (nI S.2.1), .ref (O 0), .int (S.1 0), .int (S.1 1), .int (S.1 2), .int (S.1 3), .int (S.1 4), .int (S.1 5), .int (S.1 6)]))], [(X 13, .inl (G.2.1 4, 3, .inr (.inr (.inr (.inr (refA 3 W))))))], famW 3 (fun ι => chP G (W ι) (S.2.2.2.1 ι))]) rfl (by decide) (by decide) ?_
  rintro _ rfl
  refine V_iload_n hC dX8_modulus_11 2 rfl ?_
  refine V_iconst hC dX8_modulus_12 (v := 0) (by decide) ?_
  refine V_iconst hC dX8_modulus_13 (v := 3) (by decide) ?_
  refine V_callv hC (V_runS hC (rest := []) [.int (nI w), .int 0, .int 3] (c_X8z_needArgument l G (nI w) 0 3 (inR_nI (M := 3) hw)) [] rfl (by decide) q319 q320 q20 q321 ⟨by decide, by decide, rfl⟩ ⟨by decide, by decide⟩ rfl (Nat.le_of_ble_eq_true rfl) ⟨by decide, by decide⟩ dX8_modulus_14) (is := []) rfl [0, 1, 2, 3] (rs := [[(X 0, .inr (9, [.ref (X 1), .int (nI nb), .ref (X 2), .ref (X 6), .ref (X 8), .ref (X 10), .ref (X 14), .ref (X 18), .int (nI nl), .int du, .ref (X 19), .int mo, .ref (X 20), .int cl]))], [(X 10, .inr (3, [.ref (X 11), .ref (X 12), .ref (X 13), .int (nI S.2.1), .ref (O 0), .int (S.1 0), .int (S.1 1), .int (S.1 2), .int (S.1 3), .int (S.1 4), .int (S.1 5), .int (S.1 6)]))], [(X 13, .inl (G.2.1 4, 3, .inr (.inr (.inr (.inr (refA 3 W))))))], famW 3 (fun ι => chP G (W ι) (S.2.2.2.1 ι))]) rfl (by decide) (by decide) ?_
  rintro _ rfl
  rcases (show w = 0 ∨ w = 1 ∨ w = 2 ∨ w = 3 by omega) with rfl | rfl | rfl | rfl
  · refine V_aload_n hC dX8_modulus_17 0 rfl ?_
    refine V_get hC dX8_modulus_18 inAX8 (mem_at 0 0 rfl rfl) rfl 5 (by decide) q277 rfl (v := .ref (X 10)) rfl ?_
    refine V_get hC dX8_modulus_21 inAX2 (mem_at 1 0 rfl rfl) rfl 2 (by decide) q138 rfl (v := .ref (X 13)) rfl ?_
    refine V_iload_n hC dX8_modulus_24 1 rfl ?_
    refine V_aald hC dX8_modulus_25 4 rfl (mem_at 2 0 rfl rfl) (vp_in_nI (by omega) (by omega)) (x := i) (nI_clamp (by omega)) (b := (W i) 0) (refA_at (by omega)) ?_
    refine V_get hC dX8_modulus_26 inAX1 (mem_fam 3 0 rfl i (by first | assumption | omega) rfl) rfl 1 (by decide) q102 rfl (v := .ref ((W i) 1)) rfl ?_
    refine V_astore_n hC dX8_modulus_29 (L' := [(3, .ref ((W i) 1)), (0, .ref (X 0)), (1, .int (nI i)), (2, .int (nI 0))]) (by decide) rfl ?_
    refine V_iload_n hC dX8_modulus_30 3 rfl ?_
    refine V_tabIn hC dX8_modulus_31 (by decide) (by decide) (off := 25) (by decide) (tgt := 56) (by decide) ?_
    refine V_aload_n hC dX8_modulus_56 0 rfl ?_
    refine V_sub [3, 0, 1, 2] (by decide) (u := [famW 3 (fun ι => chP G (W ι) (S.2.2.2.1 ι)), [(X 0, .inr (9, [.ref (X 1), .int (nI nb), .ref (X 2), .ref (X 6), .ref (X 8), .ref (X 10), .ref (X 14), .ref (X 18), .int (nI nl), .int du, .ref (X 19), .int mo, .ref (X 20), .int cl]))], [(X 10, .inr (3, [.ref (X 11), .ref (X 12), .ref (X 13), .int (nI S.2.1), .ref (O 0), .int (S.1 0), .int (S.1 1), .int (S.1 2), .int (S.1 3), .int (S.1 4), .int (S.1 5), .int (S.1 6)]))], [(X 13, .inl (G.2.1 4, 3, .inr (.inr (.inr (.inr (refA 3 W))))))]]) rfl ?_
    refine V_open (i := i) (by omega) ?_
    refine V_flat (ps' := [[((W i) 0, .inr (2, [.int (((S.2.2.2.1 i).1) 0), .ref ((W i) 1), .ref ((W i) 2), .int (((S.2.2.2.1 i).1) 1), .int (((S.2.2.2.1 i).1) 2), .int (((S.2.2.2.1 i).1) 3), .int (((S.2.2.2.1 i).1) 4), .int (((S.2.2.2.1 i).1) 5)]))], [((W i) 1, .inr (5, [.ref ((W i) 3)]))], [((W i) 3, .inl (G.2.1 0, 4, .inl ((S.2.2.2.1 i).2.1)))], [((W i) 2, .inl (G.2.1 0, 6, .inl ((S.2.2.2.1 i).2.2)))], famX 3 i (fun ι => chP G (W ι) (S.2.2.2.1 ι)), [(X 0, .inr (9, [.ref (X 1), .int (nI nb), .ref (X 2), .ref (X 6), .ref (X 8), .ref (X 10), .ref (X 14), .ref (X 18), .int (nI nl), .int du, .ref (X 19), .int mo, .ref (X 20), .int cl]))], [(X 10, .inr (3, [.ref (X 11), .ref (X 12), .ref (X 13), .int (nI S.2.1), .ref (O 0), .int (S.1 0), .int (S.1 1), .int (S.1 2), .int (S.1 3), .int (S.1 4), .int (S.1 5), .int (S.1 6)]))], [(X 13, .inl (G.2.1 4, 3, .inr (.inr (.inr (.inr (refA 3 W))))))]]) rfl ?_
    refine V_calli hC (V_runV hC (rest := []) [] (c_X4_saturation l G ((W i) 1) ((W i) 3) ((S.2.2.2.1 i).2.1)) [1, 2] rfl (by decide) q470 q471 q472 q22 q473 ⟨by decide, by decide, rfl⟩ ⟨by decide, by decide⟩ (ci := 5) rfl (mem_at 1 0 rfl rfl) rfl (Nat.le_of_ble_eq_true rfl) ⟨by decide, by decide⟩ dX8_modulus_57) (is := [1, 2]) rfl [0, 3, 4, 5, 6, 7] (rs := [[((W i) 0, .inr (2, [.int (((S.2.2.2.1 i).1) 0), .ref ((W i) 1), .ref ((W i) 2), .int (((S.2.2.2.1 i).1) 1), .int (((S.2.2.2.1 i).1) 2), .int (((S.2.2.2.1 i).1) 3), .int (((S.2.2.2.1 i).1) 4), .int (((S.2.2.2.1 i).1) 5)]))], [((W i) 2, .inl (G.2.1 0, 6, .inl ((S.2.2.2.1 i).2.2)))], famX 3 i (fun ι => chP G (W ι) (S.2.2.2.1 ι)), [(X 0, .inr (9, [.ref (X 1), .int (nI nb), .ref (X 2), .ref (X 6), .ref (X 8), .ref (X 10), .ref (X 14), .ref (X 18), .int (nI nl), .int du, .ref (X 19), .int mo, .ref (X 20), .int cl]))], [(X 10, .inr (3, [.ref (X 11), .ref (X 12), .ref (X 13), .int (nI S.2.1), .ref (O 0), .int (S.1 0), .int (S.1 1), .int (S.1 2), .int (S.1 3), .int (S.1 4), .int (S.1 5), .int (S.1 6)]))], [(X 13, .inl (G.2.1 4, 3, .inr (.inr (.inr (.inr (refA 3 W))))))]]) rfl (by decide) (by decide) ?_
    rintro _ _ ⟨rfl, rfl⟩
    refine V_sub [2, 0, 1, 3, 4, 5, 6, 7] (by decide) (u := [[((W i) 0, .inr (2, [.int (((S.2.2.2.1 i).1) 0), .ref ((W i) 1), .ref ((W i) 2), .int (((S.2.2.2.1 i).1) 1), .int (((S.2.2.2.1 i).1) 2), .int (((S.2.2.2.1 i).1) 3), .int (((S.2.2.2.1 i).1) 4), .int (((S.2.2.2.1 i).1) 5)]))], [((W i) 1, .inr (5, [.ref ((W i) 3)]))], [((W i) 3, .inl (G.2.1 0, 4, .inl ((S.2.2.2.1 i).2.1)))], [((W i) 2, .inl (G.2.1 0, 6, .inl ((S.2.2.2.1 i).2.2)))], famX 3 i (fun ι => chP G (W ι) (S.2.2.2.1 ι)), [(X 0, .inr (9, [.ref (X 1), .int (nI nb), .ref (X 2), .ref (X 6), .ref (X 8), .ref (X 10), .ref (X 14), .ref (X 18), .int (nI nl), .int du, .ref (X 19), .int mo, .ref (X 20), .int cl]))], [(X 10, .inr (3, [.ref (X 11), .ref (X 12), .ref (X 13), .int (nI S.2.1), .ref (O 0), .int (S.1 0), .int (S.1 1), .int (S.1 2), .int (S.1 3), .int (S.1 4), .int (S.1 5), .int (S.1 6)]))], [(X 13, .inl (G.2.1 4, 3, .inr (.inr (.inr (.inr (refA 3 W))))))]]) rfl ?_
    refine V_flat (ps' := [chP G (W i) (S.2.2.2.1 i), famX 3 i (fun ι => chP G (W ι) (S.2.2.2.1 ι)), [(X 0, .inr (9, [.ref (X 1), .int (nI nb), .ref (X 2), .ref (X 6), .ref (X 8), .ref (X 10), .ref (X 14), .ref (X 18), .int (nI nl), .int du, .ref (X 19), .int mo, .ref (X 20), .int cl]))], [(X 10, .inr (3, [.ref (X 11), .ref (X 12), .ref (X 13), .int (nI S.2.1), .ref (O 0), .int (S.1 0), .int (S.1 1), .int (S.1 2), .int (S.1 3), .int (S.1 4), .int (S.1 5), .int (S.1 6)]))], [(X 13, .inl (G.2.1 4, 3, .inr (.inr (.inr (.inr (refA 3 W))))))]]) rfl ?_
    refine V_close (i := i) (g' := fun ι => chP G (W ι) (S.2.2.2.1 ι)) (by omega) (rfl) (fun _ _ _ => rfl) ?_
    exact V_iret hC hQ hr [1, 2, 3, 0] (u := [[(X 0, .inr (9, [.ref (X 1), .int (nI nb), .ref (X 2), .ref (X 6), .ref (X 8), .ref (X 10), .ref (X 14), .ref (X 18), .int (nI nl), .int du, .ref (X 19), .int mo, .ref (X 20), .int cl]))], [(X 10, .inr (3, [.ref (X 11), .ref (X 12), .ref (X 13), .int (nI S.2.1), .ref (O 0), .int (S.1 0), .int (S.1 1), .int (S.1 2), .int (S.1 3), .int (S.1 4), .int (S.1 5), .int (S.1 6)]))], [(X 13, .inl (G.2.1 4, 3, .inr (.inr (.inr (.inr (refA 3 W))))))], famW 3 (fun ι => chP G (W ι) (S.2.2.2.1 ι))]) (by decide) rfl (by decide) (by decide) dX8_modulus_60 (⟨rfl, rfl⟩)
  · refine V_aload_n hC dX8_modulus_17 0 rfl ?_
    refine V_get hC dX8_modulus_18 inAX8 (mem_at 0 0 rfl rfl) rfl 5 (by decide) q277 rfl (v := .ref (X 10)) rfl ?_
    refine V_get hC dX8_modulus_21 inAX2 (mem_at 1 0 rfl rfl) rfl 2 (by decide) q138 rfl (v := .ref (X 13)) rfl ?_
    refine V_iload_n hC dX8_modulus_24 1 rfl ?_
    refine V_aald hC dX8_modulus_25 4 rfl (mem_at 2 0 rfl rfl) (vp_in_nI (by omega) (by omega)) (x := i) (nI_clamp (by omega)) (b := (W i) 0) (refA_at (by omega)) ?_
    refine V_get hC dX8_modulus_26 inAX1 (mem_fam 3 0 rfl i (by first | assumption | omega) rfl) rfl 1 (by decide) q102 rfl (v := .ref ((W i) 1)) rfl ?_
    refine V_astore_n hC dX8_modulus_29 (L' := [(3, .ref ((W i) 1)), (0, .ref (X 0)), (1, .int (nI i)), (2, .int (nI 1))]) (by decide) rfl ?_
    refine V_iload_n hC dX8_modulus_30 3 rfl ?_
    refine V_tabIn hC dX8_modulus_31 (by decide) (by decide) (off := 30) (by decide) (tgt := 61) (by decide) ?_
    refine V_aload_n hC dX8_modulus_61 0 rfl ?_
    refine V_sub [3, 0, 1, 2] (by decide) (u := [famW 3 (fun ι => chP G (W ι) (S.2.2.2.1 ι)), [(X 0, .inr (9, [.ref (X 1), .int (nI nb), .ref (X 2), .ref (X 6), .ref (X 8), .ref (X 10), .ref (X 14), .ref (X 18), .int (nI nl), .int du, .ref (X 19), .int mo, .ref (X 20), .int cl]))], [(X 10, .inr (3, [.ref (X 11), .ref (X 12), .ref (X 13), .int (nI S.2.1), .ref (O 0), .int (S.1 0), .int (S.1 1), .int (S.1 2), .int (S.1 3), .int (S.1 4), .int (S.1 5), .int (S.1 6)]))], [(X 13, .inl (G.2.1 4, 3, .inr (.inr (.inr (.inr (refA 3 W))))))]]) rfl ?_
    refine V_open (i := i) (by omega) ?_
    refine V_flat (ps' := [[((W i) 0, .inr (2, [.int (((S.2.2.2.1 i).1) 0), .ref ((W i) 1), .ref ((W i) 2), .int (((S.2.2.2.1 i).1) 1), .int (((S.2.2.2.1 i).1) 2), .int (((S.2.2.2.1 i).1) 3), .int (((S.2.2.2.1 i).1) 4), .int (((S.2.2.2.1 i).1) 5)]))], [((W i) 1, .inr (5, [.ref ((W i) 3)]))], [((W i) 3, .inl (G.2.1 0, 4, .inl ((S.2.2.2.1 i).2.1)))], [((W i) 2, .inl (G.2.1 0, 6, .inl ((S.2.2.2.1 i).2.2)))], famX 3 i (fun ι => chP G (W ι) (S.2.2.2.1 ι)), [(X 0, .inr (9, [.ref (X 1), .int (nI nb), .ref (X 2), .ref (X 6), .ref (X 8), .ref (X 10), .ref (X 14), .ref (X 18), .int (nI nl), .int du, .ref (X 19), .int mo, .ref (X 20), .int cl]))], [(X 10, .inr (3, [.ref (X 11), .ref (X 12), .ref (X 13), .int (nI S.2.1), .ref (O 0), .int (S.1 0), .int (S.1 1), .int (S.1 2), .int (S.1 3), .int (S.1 4), .int (S.1 5), .int (S.1 6)]))], [(X 13, .inl (G.2.1 4, 3, .inr (.inr (.inr (.inr (refA 3 W))))))]]) rfl ?_
    refine V_calli hC (V_runV hC (rest := []) [] (c_X4_silicaModulus l G ((W i) 1) ((W i) 3) ((S.2.2.2.1 i).2.1)) [1, 2] rfl (by decide) q565 q566 q567 q22 q568 ⟨by decide, by decide, rfl⟩ ⟨by decide, by decide⟩ (ci := 5) rfl (mem_at 1 0 rfl rfl) rfl (Nat.le_of_ble_eq_true rfl) ⟨by decide, by decide⟩ dX8_modulus_62) (is := [1, 2]) rfl [0, 3, 4, 5, 6, 7] (rs := [[((W i) 0, .inr (2, [.int (((S.2.2.2.1 i).1) 0), .ref ((W i) 1), .ref ((W i) 2), .int (((S.2.2.2.1 i).1) 1), .int (((S.2.2.2.1 i).1) 2), .int (((S.2.2.2.1 i).1) 3), .int (((S.2.2.2.1 i).1) 4), .int (((S.2.2.2.1 i).1) 5)]))], [((W i) 2, .inl (G.2.1 0, 6, .inl ((S.2.2.2.1 i).2.2)))], famX 3 i (fun ι => chP G (W ι) (S.2.2.2.1 ι)), [(X 0, .inr (9, [.ref (X 1), .int (nI nb), .ref (X 2), .ref (X 6), .ref (X 8), .ref (X 10), .ref (X 14), .ref (X 18), .int (nI nl), .int du, .ref (X 19), .int mo, .ref (X 20), .int cl]))], [(X 10, .inr (3, [.ref (X 11), .ref (X 12), .ref (X 13), .int (nI S.2.1), .ref (O 0), .int (S.1 0), .int (S.1 1), .int (S.1 2), .int (S.1 3), .int (S.1 4), .int (S.1 5), .int (S.1 6)]))], [(X 13, .inl (G.2.1 4, 3, .inr (.inr (.inr (.inr (refA 3 W))))))]]) rfl (by decide) (by decide) ?_
    rintro _ _ ⟨rfl, rfl⟩
    refine V_sub [2, 0, 1, 3, 4, 5, 6, 7] (by decide) (u := [[((W i) 0, .inr (2, [.int (((S.2.2.2.1 i).1) 0), .ref ((W i) 1), .ref ((W i) 2), .int (((S.2.2.2.1 i).1) 1), .int (((S.2.2.2.1 i).1) 2), .int (((S.2.2.2.1 i).1) 3), .int (((S.2.2.2.1 i).1) 4), .int (((S.2.2.2.1 i).1) 5)]))], [((W i) 1, .inr (5, [.ref ((W i) 3)]))], [((W i) 3, .inl (G.2.1 0, 4, .inl ((S.2.2.2.1 i).2.1)))], [((W i) 2, .inl (G.2.1 0, 6, .inl ((S.2.2.2.1 i).2.2)))], famX 3 i (fun ι => chP G (W ι) (S.2.2.2.1 ι)), [(X 0, .inr (9, [.ref (X 1), .int (nI nb), .ref (X 2), .ref (X 6), .ref (X 8), .ref (X 10), .ref (X 14), .ref (X 18), .int (nI nl), .int du, .ref (X 19), .int mo, .ref (X 20), .int cl]))], [(X 10, .inr (3, [.ref (X 11), .ref (X 12), .ref (X 13), .int (nI S.2.1), .ref (O 0), .int (S.1 0), .int (S.1 1), .int (S.1 2), .int (S.1 3), .int (S.1 4), .int (S.1 5), .int (S.1 6)]))], [(X 13, .inl (G.2.1 4, 3, .inr (.inr (.inr (.inr (refA 3 W))))))]]) rfl ?_
    refine V_flat (ps' := [chP G (W i) (S.2.2.2.1 i), famX 3 i (fun ι => chP G (W ι) (S.2.2.2.1 ι)), [(X 0, .inr (9, [.ref (X 1), .int (nI nb), .ref (X 2), .ref (X 6), .ref (X 8), .ref (X 10), .ref (X 14), .ref (X 18), .int (nI nl), .int du, .ref (X 19), .int mo, .ref (X 20), .int cl]))], [(X 10, .inr (3, [.ref (X 11), .ref (X 12), .ref (X 13), .int (nI S.2.1), .ref (O 0), .int (S.1 0), .int (S.1 1), .int (S.1 2), .int (S.1 3), .int (S.1 4), .int (S.1 5), .int (S.1 6)]))], [(X 13, .inl (G.2.1 4, 3, .inr (.inr (.inr (.inr (refA 3 W))))))]]) rfl ?_
    refine V_close (i := i) (g' := fun ι => chP G (W ι) (S.2.2.2.1 ι)) (by omega) (rfl) (fun _ _ _ => rfl) ?_
    exact V_iret hC hQ hr [1, 2, 3, 0] (u := [[(X 0, .inr (9, [.ref (X 1), .int (nI nb), .ref (X 2), .ref (X 6), .ref (X 8), .ref (X 10), .ref (X 14), .ref (X 18), .int (nI nl), .int du, .ref (X 19), .int mo, .ref (X 20), .int cl]))], [(X 10, .inr (3, [.ref (X 11), .ref (X 12), .ref (X 13), .int (nI S.2.1), .ref (O 0), .int (S.1 0), .int (S.1 1), .int (S.1 2), .int (S.1 3), .int (S.1 4), .int (S.1 5), .int (S.1 6)]))], [(X 13, .inl (G.2.1 4, 3, .inr (.inr (.inr (.inr (refA 3 W))))))], famW 3 (fun ι => chP G (W ι) (S.2.2.2.1 ι))]) (by decide) rfl (by decide) (by decide) dX8_modulus_65 (⟨rfl, rfl⟩)
  · refine V_aload_n hC dX8_modulus_17 0 rfl ?_
    refine V_get hC dX8_modulus_18 inAX8 (mem_at 0 0 rfl rfl) rfl 5 (by decide) q277 rfl (v := .ref (X 10)) rfl ?_
    refine V_get hC dX8_modulus_21 inAX2 (mem_at 1 0 rfl rfl) rfl 2 (by decide) q138 rfl (v := .ref (X 13)) rfl ?_
    refine V_iload_n hC dX8_modulus_24 1 rfl ?_
    refine V_aald hC dX8_modulus_25 4 rfl (mem_at 2 0 rfl rfl) (vp_in_nI (by omega) (by omega)) (x := i) (nI_clamp (by omega)) (b := (W i) 0) (refA_at (by omega)) ?_
    refine V_get hC dX8_modulus_26 inAX1 (mem_fam 3 0 rfl i (by first | assumption | omega) rfl) rfl 1 (by decide) q102 rfl (v := .ref ((W i) 1)) rfl ?_
    refine V_astore_n hC dX8_modulus_29 (L' := [(3, .ref ((W i) 1)), (0, .ref (X 0)), (1, .int (nI i)), (2, .int (nI 2))]) (by decide) rfl ?_
    refine V_iload_n hC dX8_modulus_30 3 rfl ?_
    refine V_tabIn hC dX8_modulus_31 (by decide) (by decide) (off := 35) (by decide) (tgt := 66) (by decide) ?_
    refine V_aload_n hC dX8_modulus_66 0 rfl ?_
    refine V_sub [3, 0, 1, 2] (by decide) (u := [famW 3 (fun ι => chP G (W ι) (S.2.2.2.1 ι)), [(X 0, .inr (9, [.ref (X 1), .int (nI nb), .ref (X 2), .ref (X 6), .ref (X 8), .ref (X 10), .ref (X 14), .ref (X 18), .int (nI nl), .int du, .ref (X 19), .int mo, .ref (X 20), .int cl]))], [(X 10, .inr (3, [.ref (X 11), .ref (X 12), .ref (X 13), .int (nI S.2.1), .ref (O 0), .int (S.1 0), .int (S.1 1), .int (S.1 2), .int (S.1 3), .int (S.1 4), .int (S.1 5), .int (S.1 6)]))], [(X 13, .inl (G.2.1 4, 3, .inr (.inr (.inr (.inr (refA 3 W))))))]]) rfl ?_
    refine V_open (i := i) (by omega) ?_
    refine V_flat (ps' := [[((W i) 0, .inr (2, [.int (((S.2.2.2.1 i).1) 0), .ref ((W i) 1), .ref ((W i) 2), .int (((S.2.2.2.1 i).1) 1), .int (((S.2.2.2.1 i).1) 2), .int (((S.2.2.2.1 i).1) 3), .int (((S.2.2.2.1 i).1) 4), .int (((S.2.2.2.1 i).1) 5)]))], [((W i) 1, .inr (5, [.ref ((W i) 3)]))], [((W i) 3, .inl (G.2.1 0, 4, .inl ((S.2.2.2.1 i).2.1)))], [((W i) 2, .inl (G.2.1 0, 6, .inl ((S.2.2.2.1 i).2.2)))], famX 3 i (fun ι => chP G (W ι) (S.2.2.2.1 ι)), [(X 0, .inr (9, [.ref (X 1), .int (nI nb), .ref (X 2), .ref (X 6), .ref (X 8), .ref (X 10), .ref (X 14), .ref (X 18), .int (nI nl), .int du, .ref (X 19), .int mo, .ref (X 20), .int cl]))], [(X 10, .inr (3, [.ref (X 11), .ref (X 12), .ref (X 13), .int (nI S.2.1), .ref (O 0), .int (S.1 0), .int (S.1 1), .int (S.1 2), .int (S.1 3), .int (S.1 4), .int (S.1 5), .int (S.1 6)]))], [(X 13, .inl (G.2.1 4, 3, .inr (.inr (.inr (.inr (refA 3 W))))))]]) rfl ?_
    refine V_calli hC (V_runV hC (rest := []) [] (c_X4_aluminaModulus l G ((W i) 1) ((W i) 3) ((S.2.2.2.1 i).2.1)) [1, 2] rfl (by decide) q570 q571 q572 q22 q573 ⟨by decide, by decide, rfl⟩ ⟨by decide, by decide⟩ (ci := 5) rfl (mem_at 1 0 rfl rfl) rfl (Nat.le_of_ble_eq_true rfl) ⟨by decide, by decide⟩ dX8_modulus_67) (is := [1, 2]) rfl [0, 3, 4, 5, 6, 7] (rs := [[((W i) 0, .inr (2, [.int (((S.2.2.2.1 i).1) 0), .ref ((W i) 1), .ref ((W i) 2), .int (((S.2.2.2.1 i).1) 1), .int (((S.2.2.2.1 i).1) 2), .int (((S.2.2.2.1 i).1) 3), .int (((S.2.2.2.1 i).1) 4), .int (((S.2.2.2.1 i).1) 5)]))], [((W i) 2, .inl (G.2.1 0, 6, .inl ((S.2.2.2.1 i).2.2)))], famX 3 i (fun ι => chP G (W ι) (S.2.2.2.1 ι)), [(X 0, .inr (9, [.ref (X 1), .int (nI nb), .ref (X 2), .ref (X 6), .ref (X 8), .ref (X 10), .ref (X 14), .ref (X 18), .int (nI nl), .int du, .ref (X 19), .int mo, .ref (X 20), .int cl]))], [(X 10, .inr (3, [.ref (X 11), .ref (X 12), .ref (X 13), .int (nI S.2.1), .ref (O 0), .int (S.1 0), .int (S.1 1), .int (S.1 2), .int (S.1 3), .int (S.1 4), .int (S.1 5), .int (S.1 6)]))], [(X 13, .inl (G.2.1 4, 3, .inr (.inr (.inr (.inr (refA 3 W))))))]]) rfl (by decide) (by decide) ?_
    rintro _ _ ⟨rfl, rfl⟩
    refine V_sub [2, 0, 1, 3, 4, 5, 6, 7] (by decide) (u := [[((W i) 0, .inr (2, [.int (((S.2.2.2.1 i).1) 0), .ref ((W i) 1), .ref ((W i) 2), .int (((S.2.2.2.1 i).1) 1), .int (((S.2.2.2.1 i).1) 2), .int (((S.2.2.2.1 i).1) 3), .int (((S.2.2.2.1 i).1) 4), .int (((S.2.2.2.1 i).1) 5)]))], [((W i) 1, .inr (5, [.ref ((W i) 3)]))], [((W i) 3, .inl (G.2.1 0, 4, .inl ((S.2.2.2.1 i).2.1)))], [((W i) 2, .inl (G.2.1 0, 6, .inl ((S.2.2.2.1 i).2.2)))], famX 3 i (fun ι => chP G (W ι) (S.2.2.2.1 ι)), [(X 0, .inr (9, [.ref (X 1), .int (nI nb), .ref (X 2), .ref (X 6), .ref (X 8), .ref (X 10), .ref (X 14), .ref (X 18), .int (nI nl), .int du, .ref (X 19), .int mo, .ref (X 20), .int cl]))], [(X 10, .inr (3, [.ref (X 11), .ref (X 12), .ref (X 13), .int (nI S.2.1), .ref (O 0), .int (S.1 0), .int (S.1 1), .int (S.1 2), .int (S.1 3), .int (S.1 4), .int (S.1 5), .int (S.1 6)]))], [(X 13, .inl (G.2.1 4, 3, .inr (.inr (.inr (.inr (refA 3 W))))))]]) rfl ?_
    refine V_flat (ps' := [chP G (W i) (S.2.2.2.1 i), famX 3 i (fun ι => chP G (W ι) (S.2.2.2.1 ι)), [(X 0, .inr (9, [.ref (X 1), .int (nI nb), .ref (X 2), .ref (X 6), .ref (X 8), .ref (X 10), .ref (X 14), .ref (X 18), .int (nI nl), .int du, .ref (X 19), .int mo, .ref (X 20), .int cl]))], [(X 10, .inr (3, [.ref (X 11), .ref (X 12), .ref (X 13), .int (nI S.2.1), .ref (O 0), .int (S.1 0), .int (S.1 1), .int (S.1 2), .int (S.1 3), .int (S.1 4), .int (S.1 5), .int (S.1 6)]))], [(X 13, .inl (G.2.1 4, 3, .inr (.inr (.inr (.inr (refA 3 W))))))]]) rfl ?_
    refine V_close (i := i) (g' := fun ι => chP G (W ι) (S.2.2.2.1 ι)) (by omega) (rfl) (fun _ _ _ => rfl) ?_
    exact V_iret hC hQ hr [1, 2, 3, 0] (u := [[(X 0, .inr (9, [.ref (X 1), .int (nI nb), .ref (X 2), .ref (X 6), .ref (X 8), .ref (X 10), .ref (X 14), .ref (X 18), .int (nI nl), .int du, .ref (X 19), .int mo, .ref (X 20), .int cl]))], [(X 10, .inr (3, [.ref (X 11), .ref (X 12), .ref (X 13), .int (nI S.2.1), .ref (O 0), .int (S.1 0), .int (S.1 1), .int (S.1 2), .int (S.1 3), .int (S.1 4), .int (S.1 5), .int (S.1 6)]))], [(X 13, .inl (G.2.1 4, 3, .inr (.inr (.inr (.inr (refA 3 W))))))], famW 3 (fun ι => chP G (W ι) (S.2.2.2.1 ι))]) (by decide) rfl (by decide) (by decide) dX8_modulus_70 (⟨rfl, rfl⟩)
  · refine V_aload_n hC dX8_modulus_17 0 rfl ?_
    refine V_get hC dX8_modulus_18 inAX8 (mem_at 0 0 rfl rfl) rfl 5 (by decide) q277 rfl (v := .ref (X 10)) rfl ?_
    refine V_get hC dX8_modulus_21 inAX2 (mem_at 1 0 rfl rfl) rfl 2 (by decide) q138 rfl (v := .ref (X 13)) rfl ?_
    refine V_iload_n hC dX8_modulus_24 1 rfl ?_
    refine V_aald hC dX8_modulus_25 4 rfl (mem_at 2 0 rfl rfl) (vp_in_nI (by omega) (by omega)) (x := i) (nI_clamp (by omega)) (b := (W i) 0) (refA_at (by omega)) ?_
    refine V_get hC dX8_modulus_26 inAX1 (mem_fam 3 0 rfl i (by first | assumption | omega) rfl) rfl 1 (by decide) q102 rfl (v := .ref ((W i) 1)) rfl ?_
    refine V_astore_n hC dX8_modulus_29 (L' := [(3, .ref ((W i) 1)), (0, .ref (X 0)), (1, .int (nI i)), (2, .int (nI 3))]) (by decide) rfl ?_
    refine V_iload_n hC dX8_modulus_30 3 rfl ?_
    refine V_tabOut hC dX8_modulus_31 (by decide) (tgt := 71) (by decide) ?_
    refine V_aload_n hC dX8_modulus_71 0 rfl ?_
    refine V_sub [3, 0, 1, 2] (by decide) (u := [famW 3 (fun ι => chP G (W ι) (S.2.2.2.1 ι)), [(X 0, .inr (9, [.ref (X 1), .int (nI nb), .ref (X 2), .ref (X 6), .ref (X 8), .ref (X 10), .ref (X 14), .ref (X 18), .int (nI nl), .int du, .ref (X 19), .int mo, .ref (X 20), .int cl]))], [(X 10, .inr (3, [.ref (X 11), .ref (X 12), .ref (X 13), .int (nI S.2.1), .ref (O 0), .int (S.1 0), .int (S.1 1), .int (S.1 2), .int (S.1 3), .int (S.1 4), .int (S.1 5), .int (S.1 6)]))], [(X 13, .inl (G.2.1 4, 3, .inr (.inr (.inr (.inr (refA 3 W))))))]]) rfl ?_
    refine V_open (i := i) (by omega) ?_
    refine V_flat (ps' := [[((W i) 0, .inr (2, [.int (((S.2.2.2.1 i).1) 0), .ref ((W i) 1), .ref ((W i) 2), .int (((S.2.2.2.1 i).1) 1), .int (((S.2.2.2.1 i).1) 2), .int (((S.2.2.2.1 i).1) 3), .int (((S.2.2.2.1 i).1) 4), .int (((S.2.2.2.1 i).1) 5)]))], [((W i) 1, .inr (5, [.ref ((W i) 3)]))], [((W i) 3, .inl (G.2.1 0, 4, .inl ((S.2.2.2.1 i).2.1)))], [((W i) 2, .inl (G.2.1 0, 6, .inl ((S.2.2.2.1 i).2.2)))], famX 3 i (fun ι => chP G (W ι) (S.2.2.2.1 ι)), [(X 0, .inr (9, [.ref (X 1), .int (nI nb), .ref (X 2), .ref (X 6), .ref (X 8), .ref (X 10), .ref (X 14), .ref (X 18), .int (nI nl), .int du, .ref (X 19), .int mo, .ref (X 20), .int cl]))], [(X 10, .inr (3, [.ref (X 11), .ref (X 12), .ref (X 13), .int (nI S.2.1), .ref (O 0), .int (S.1 0), .int (S.1 1), .int (S.1 2), .int (S.1 3), .int (S.1 4), .int (S.1 5), .int (S.1 6)]))], [(X 13, .inl (G.2.1 4, 3, .inr (.inr (.inr (.inr (refA 3 W))))))]]) rfl ?_
    refine V_calli hC (V_runV hC (rest := []) [] (c_X4_isRight l G ((W i) 1) ((W i) 3) ((S.2.2.2.1 i).2.1)) [1, 2] rfl (by decide) q574 q575 q576 q22 q577 ⟨by decide, by decide, rfl⟩ ⟨by decide, by decide⟩ (ci := 5) rfl (mem_at 1 0 rfl rfl) rfl (Nat.le_of_ble_eq_true rfl) ⟨by decide, by decide⟩ dX8_modulus_72) (is := [1, 2]) rfl [0, 3, 4, 5, 6, 7] (rs := [[((W i) 0, .inr (2, [.int (((S.2.2.2.1 i).1) 0), .ref ((W i) 1), .ref ((W i) 2), .int (((S.2.2.2.1 i).1) 1), .int (((S.2.2.2.1 i).1) 2), .int (((S.2.2.2.1 i).1) 3), .int (((S.2.2.2.1 i).1) 4), .int (((S.2.2.2.1 i).1) 5)]))], [((W i) 2, .inl (G.2.1 0, 6, .inl ((S.2.2.2.1 i).2.2)))], famX 3 i (fun ι => chP G (W ι) (S.2.2.2.1 ι)), [(X 0, .inr (9, [.ref (X 1), .int (nI nb), .ref (X 2), .ref (X 6), .ref (X 8), .ref (X 10), .ref (X 14), .ref (X 18), .int (nI nl), .int du, .ref (X 19), .int mo, .ref (X 20), .int cl]))], [(X 10, .inr (3, [.ref (X 11), .ref (X 12), .ref (X 13), .int (nI S.2.1), .ref (O 0), .int (S.1 0), .int (S.1 1), .int (S.1 2), .int (S.1 3), .int (S.1 4), .int (S.1 5), .int (S.1 6)]))], [(X 13, .inl (G.2.1 4, 3, .inr (.inr (.inr (.inr (refA 3 W))))))]]) rfl (by decide) (by decide) ?_
    rintro _ _ ⟨rfl, rfl⟩
    refine V_sub [2, 0, 1, 3, 4, 5, 6, 7] (by decide) (u := [[((W i) 0, .inr (2, [.int (((S.2.2.2.1 i).1) 0), .ref ((W i) 1), .ref ((W i) 2), .int (((S.2.2.2.1 i).1) 1), .int (((S.2.2.2.1 i).1) 2), .int (((S.2.2.2.1 i).1) 3), .int (((S.2.2.2.1 i).1) 4), .int (((S.2.2.2.1 i).1) 5)]))], [((W i) 1, .inr (5, [.ref ((W i) 3)]))], [((W i) 3, .inl (G.2.1 0, 4, .inl ((S.2.2.2.1 i).2.1)))], [((W i) 2, .inl (G.2.1 0, 6, .inl ((S.2.2.2.1 i).2.2)))], famX 3 i (fun ι => chP G (W ι) (S.2.2.2.1 ι)), [(X 0, .inr (9, [.ref (X 1), .int (nI nb), .ref (X 2), .ref (X 6), .ref (X 8), .ref (X 10), .ref (X 14), .ref (X 18), .int (nI nl), .int du, .ref (X 19), .int mo, .ref (X 20), .int cl]))], [(X 10, .inr (3, [.ref (X 11), .ref (X 12), .ref (X 13), .int (nI S.2.1), .ref (O 0), .int (S.1 0), .int (S.1 1), .int (S.1 2), .int (S.1 3), .int (S.1 4), .int (S.1 5), .int (S.1 6)]))], [(X 13, .inl (G.2.1 4, 3, .inr (.inr (.inr (.inr (refA 3 W))))))]]) rfl ?_
    refine V_flat (ps' := [chP G (W i) (S.2.2.2.1 i), famX 3 i (fun ι => chP G (W ι) (S.2.2.2.1 ι)), [(X 0, .inr (9, [.ref (X 1), .int (nI nb), .ref (X 2), .ref (X 6), .ref (X 8), .ref (X 10), .ref (X 14), .ref (X 18), .int (nI nl), .int du, .ref (X 19), .int mo, .ref (X 20), .int cl]))], [(X 10, .inr (3, [.ref (X 11), .ref (X 12), .ref (X 13), .int (nI S.2.1), .ref (O 0), .int (S.1 0), .int (S.1 1), .int (S.1 2), .int (S.1 3), .int (S.1 4), .int (S.1 5), .int (S.1 6)]))], [(X 13, .inl (G.2.1 4, 3, .inr (.inr (.inr (.inr (refA 3 W))))))]]) rfl ?_
    refine V_close (i := i) (g' := fun ι => chP G (W ι) (S.2.2.2.1 ι)) (by omega) (rfl) (fun _ _ _ => rfl) ?_
    refine V_calli hC (V_runS hC (rest := []) [.int (mxRight ((S.2.2.2.1 i).2.1))] (c_X8_asNumber l G (mxRight ((S.2.2.2.1 i).2.1)) (mxRight01 _)) [] rfl (by decide) q584 q585 q20 q586 ⟨by decide, by decide, rfl⟩ ⟨by decide, by decide⟩ rfl (Nat.le_of_ble_eq_true rfl) ⟨by decide, by decide⟩ dX8_modulus_75) (is := []) rfl [0, 1, 2, 3] (rs := [famW 3 (fun ι => chP G (W ι) (S.2.2.2.1 ι)), [(X 0, .inr (9, [.ref (X 1), .int (nI nb), .ref (X 2), .ref (X 6), .ref (X 8), .ref (X 10), .ref (X 14), .ref (X 18), .int (nI nl), .int du, .ref (X 19), .int mo, .ref (X 20), .int cl]))], [(X 10, .inr (3, [.ref (X 11), .ref (X 12), .ref (X 13), .int (nI S.2.1), .ref (O 0), .int (S.1 0), .int (S.1 1), .int (S.1 2), .int (S.1 3), .int (S.1 4), .int (S.1 5), .int (S.1 6)]))], [(X 13, .inl (G.2.1 4, 3, .inr (.inr (.inr (.inr (refA 3 W))))))]]) rfl (by decide) (by decide) ?_
    rintro _ _ ⟨rfl, rfl⟩
    exact V_iret hC hQ hr [1, 2, 3, 0] (u := [[(X 0, .inr (9, [.ref (X 1), .int (nI nb), .ref (X 2), .ref (X 6), .ref (X 8), .ref (X 10), .ref (X 14), .ref (X 18), .int (nI nl), .int du, .ref (X 19), .int mo, .ref (X 20), .int cl]))], [(X 10, .inr (3, [.ref (X 11), .ref (X 12), .ref (X 13), .int (nI S.2.1), .ref (O 0), .int (S.1 0), .int (S.1 1), .int (S.1 2), .int (S.1 3), .int (S.1 4), .int (S.1 5), .int (S.1 6)]))], [(X 13, .inl (G.2.1 4, 3, .inr (.inr (.inr (.inr (refA 3 W))))))], famW 3 (fun ι => chP G (W ι) (S.2.2.2.1 ι))]) (by decide) rfl (by decide) (by decide) dX8_modulus_78 (⟨rfl, rfl⟩)
set_option maxHeartbeats 4000000 in
set_option maxRecDepth 100000 in
/-- ClinkerWorks.many -/
theorem c_X8z_many (l : Launch) (G : VG) (X : Nat → Nat) (nb nl : Nat) (du mo cl : Int32) (n : Nat) (f g h : Nat → Int32) (O : Nat → Nat) (S : KS) (Z : Nat → Nat → Nat) (sz : Nat → SV) (wn : Nat) (ws : Int32) (wf : Nat → Int32) (w : Nat) (hn : n ≤ 8) (hsh : ∀ j, j < 2 → (sz j).2.1 = 0 ∨ (sz j).2.1 = 1) (hw : w ≤ 17) : Mi l G yX8_many cX8_many 2 .int 1 22 0 0 [.ref (X 0), .int (nI w)] [[(X 0, .inr (9, [.ref (X 1), .int (nI nb), .ref (X 2), .ref (X 6), .ref (X 8), .ref (X 10), .ref (X 14), .ref (X 18), .int (nI nl), .int du, .ref (X 19), .int mo, .ref (X 20), .int cl]))], [(X 2, .inr (6, [.int (nI n), .ref (X 3), .ref (X 4), .ref (X 5)]))], [(X 3, .inl (G.2.1 0, 8, .inl f))], [(X 4, .inl (G.2.1 0, 8, .inl g))], [(X 5, .inl (G.2.1 0, 8, .inl h))], [(X 10, .inr (3, [.ref (X 11), .ref (X 12), .ref (X 13), .int (nI S.2.1), .ref (O 0), .int (S.1 0), .int (S.1 1), .int (S.1 2), .int (S.1 3), .int (S.1 4), .int (S.1 5), .int (S.1 6)]))], [(X 19, .inl (G.2.1 6, 2, .inr (.inr (.inr (.inr (refA 2 Z))))))], famW 2 (fun ι => slP G (Z ι) (sz ι)), [(X 20, .inr (8, [.ref (X 21), .int (nI wn), .int ws]))], [(X 21, .inl (G.2.1 0, 6, .inl wf))]] (fun r u => r = qMany nb n nl g S du mo cl wn sz ws w ∧ u = [[(X 0, .inr (9, [.ref (X 1), .int (nI nb), .ref (X 2), .ref (X 6), .ref (X 8), .ref (X 10), .ref (X 14), .ref (X 18), .int (nI nl), .int du, .ref (X 19), .int mo, .ref (X 20), .int cl]))], [(X 2, .inr (6, [.int (nI n), .ref (X 3), .ref (X 4), .ref (X 5)]))], [(X 3, .inl (G.2.1 0, 8, .inl f))], [(X 4, .inl (G.2.1 0, 8, .inl g))], [(X 5, .inl (G.2.1 0, 8, .inl h))], [(X 10, .inr (3, [.ref (X 11), .ref (X 12), .ref (X 13), .int (nI S.2.1), .ref (O 0), .int (S.1 0), .int (S.1 1), .int (S.1 2), .int (S.1 3), .int (S.1 4), .int (S.1 5), .int (S.1 6)]))], [(X 19, .inl (G.2.1 6, 2, .inr (.inr (.inr (.inr (refA 2 Z))))))], famW 2 (fun ι => slP G (Z ι) (sz ι)), [(X 20, .inr (8, [.ref (X 21), .int (nI wn), .int ws]))], [(X 21, .inl (G.2.1 0, 6, .inl wf))]]) := by
  refine Mi_of (by decide) (Nat.le_of_ble_eq_true rfl) (fun pP eE sS mM aA bB tT cC AA QQ hC hr hnm hQ => ?_)
  refine V_iload_n hC dX8_many_0 1 rfl ?_
  refine V_iconst hC dX8_many_1 (v := 0) (by decide) ?_
  refine V_bipush hC dX8_many_2 (v := 17) (by decide) ?_
  refine V_callv hC (V_runS hC (rest := []) [.int (nI w), .int 0, .int 17] (c_X8z_needArgument l G (nI w) 0 17 (inR_nI (M := 17) hw)) [] rfl (by decide) q319 q320 q20 q321 ⟨by decide, by decide, rfl⟩ ⟨by decide, by decide⟩ rfl (Nat.le_of_ble_eq_true rfl) ⟨by decide, by decide⟩ dX8_many_4) (is := []) rfl [0, 1, 2, 3, 4, 5, 6, 7, 8, 9] (rs := [[(X 0, .inr (9, [.ref (X 1), .int (nI nb), .ref (X 2), .ref (X 6), .ref (X 8), .ref (X 10), .ref (X 14), .ref (X 18), .int (nI nl), .int du, .ref (X 19), .int mo, .ref (X 20), .int cl]))], [(X 2, .inr (6, [.int (nI n), .ref (X 3), .ref (X 4), .ref (X 5)]))], [(X 3, .inl (G.2.1 0, 8, .inl f))], [(X 4, .inl (G.2.1 0, 8, .inl g))], [(X 5, .inl (G.2.1 0, 8, .inl h))], [(X 10, .inr (3, [.ref (X 11), .ref (X 12), .ref (X 13), .int (nI S.2.1), .ref (O 0), .int (S.1 0), .int (S.1 1), .int (S.1 2), .int (S.1 3), .int (S.1 4), .int (S.1 5), .int (S.1 6)]))], [(X 19, .inl (G.2.1 6, 2, .inr (.inr (.inr (.inr (refA 2 Z))))))], famW 2 (fun ι => slP G (Z ι) (sz ι)), [(X 20, .inr (8, [.ref (X 21), .int (nI wn), .int ws]))], [(X 21, .inl (G.2.1 0, 6, .inl wf))]]) rfl (by decide) (by decide) ?_
  rintro _ rfl
  rcases (show w = 0 ∨ w = 1 ∨ w = 2 ∨ w = 3 ∨ w = 4 ∨ w = 5 ∨ w = 6 ∨ w = 7 ∨ w = 8 ∨ w = 9 ∨ w = 10 ∨ w = 11 ∨ w = 12 ∨ w = 13 ∨ w = 14 ∨ w = 15 ∨ w = 16 ∨ w = 17 by omega) with rfl | rfl | rfl | rfl | rfl | rfl | rfl | rfl | rfl | rfl | rfl | rfl | rfl | rfl | rfl | rfl | rfl | rfl
  · refine V_iload_n hC dX8_many_7 1 rfl ?_
    refine V_tabIn hC dX8_many_8 (by decide) (by decide) (off := 84) (by decide) (tgt := 92) (by decide) ?_
    refine V_aload_n hC dX8_many_92 0 rfl ?_
    refine V_get hC dX8_many_93 inAX8 (mem_at 0 0 rfl rfl) rfl 1 (by decide) q273 rfl (v := .int (nI nb)) rfl ?_
    exact V_iret hC hQ hr [0, 1, 2, 3, 4, 5, 6, 7, 8, 9] (u := [[(X 0, .inr (9, [.ref (X 1), .int (nI nb), .ref (X 2), .ref (X 6), .ref (X 8), .ref (X 10), .ref (X 14), .ref (X 18), .int (nI nl), .int du, .ref (X 19), .int mo, .ref (X 20), .int cl]))], [(X 2, .inr (6, [.int (nI n), .ref (X 3), .ref (X 4), .ref (X 5)]))], [(X 3, .inl (G.2.1 0, 8, .inl f))], [(X 4, .inl (G.2.1 0, 8, .inl g))], [(X 5, .inl (G.2.1 0, 8, .inl h))], [(X 10, .inr (3, [.ref (X 11), .ref (X 12), .ref (X 13), .int (nI S.2.1), .ref (O 0), .int (S.1 0), .int (S.1 1), .int (S.1 2), .int (S.1 3), .int (S.1 4), .int (S.1 5), .int (S.1 6)]))], [(X 19, .inl (G.2.1 6, 2, .inr (.inr (.inr (.inr (refA 2 Z))))))], famW 2 (fun ι => slP G (Z ι) (sz ι)), [(X 20, .inr (8, [.ref (X 21), .int (nI wn), .int ws]))], [(X 21, .inl (G.2.1 0, 6, .inl wf))]]) (by decide) rfl (by decide) (by decide) dX8_many_96 (⟨rfl, rfl⟩)
  · refine V_iload_n hC dX8_many_7 1 rfl ?_
    refine V_tabIn hC dX8_many_8 (by decide) (by decide) (off := 89) (by decide) (tgt := 97) (by decide) ?_
    refine V_aload_n hC dX8_many_97 0 rfl ?_
    refine V_get hC dX8_many_98 inAX8 (mem_at 0 0 rfl rfl) rfl 2 (by decide) q274 rfl (v := .ref (X 2)) rfl ?_
    refine V_get hC dX8_many_101 inAX5 (mem_at 1 0 rfl rfl) rfl 0 (by decide) q54 rfl (v := .int (nI n)) rfl ?_
    exact V_iret hC hQ hr [0, 1, 2, 3, 4, 5, 6, 7, 8, 9] (u := [[(X 0, .inr (9, [.ref (X 1), .int (nI nb), .ref (X 2), .ref (X 6), .ref (X 8), .ref (X 10), .ref (X 14), .ref (X 18), .int (nI nl), .int du, .ref (X 19), .int mo, .ref (X 20), .int cl]))], [(X 2, .inr (6, [.int (nI n), .ref (X 3), .ref (X 4), .ref (X 5)]))], [(X 3, .inl (G.2.1 0, 8, .inl f))], [(X 4, .inl (G.2.1 0, 8, .inl g))], [(X 5, .inl (G.2.1 0, 8, .inl h))], [(X 10, .inr (3, [.ref (X 11), .ref (X 12), .ref (X 13), .int (nI S.2.1), .ref (O 0), .int (S.1 0), .int (S.1 1), .int (S.1 2), .int (S.1 3), .int (S.1 4), .int (S.1 5), .int (S.1 6)]))], [(X 19, .inl (G.2.1 6, 2, .inr (.inr (.inr (.inr (refA 2 Z))))))], famW 2 (fun ι => slP G (Z ι) (sz ι)), [(X 20, .inr (8, [.ref (X 21), .int (nI wn), .int ws]))], [(X 21, .inl (G.2.1 0, 6, .inl wf))]]) (by decide) rfl (by decide) (by decide) dX8_many_104 (⟨rfl, rfl⟩)
  · refine V_iload_n hC dX8_many_7 1 rfl ?_
    refine V_tabIn hC dX8_many_8 (by decide) (by decide) (off := 97) (by decide) (tgt := 105) (by decide) ?_
    refine V_aload_n hC dX8_many_105 0 rfl ?_
    refine V_get hC dX8_many_106 inAX8 (mem_at 0 0 rfl rfl) rfl 2 (by decide) q274 rfl (v := .ref (X 2)) rfl ?_
    refine V_calli hC (V_runV hC (rest := []) [] (c_X5_total l G (X 2) (X 3) (X 4) (X 5) n f g h hn) [1, 2, 3, 4] rfl (by decide) q390 q391 q392 q21 q393 ⟨by decide, by decide, rfl⟩ ⟨by decide, by decide⟩ (ci := 6) rfl (mem_at 1 0 rfl rfl) rfl (Nat.le_of_ble_eq_true rfl) ⟨by decide, by decide⟩ dX8_many_109) (is := [1, 2, 3, 4]) rfl [0, 5, 6, 7, 8, 9] (rs := [[(X 0, .inr (9, [.ref (X 1), .int (nI nb), .ref (X 2), .ref (X 6), .ref (X 8), .ref (X 10), .ref (X 14), .ref (X 18), .int (nI nl), .int du, .ref (X 19), .int mo, .ref (X 20), .int cl]))], [(X 10, .inr (3, [.ref (X 11), .ref (X 12), .ref (X 13), .int (nI S.2.1), .ref (O 0), .int (S.1 0), .int (S.1 1), .int (S.1 2), .int (S.1 3), .int (S.1 4), .int (S.1 5), .int (S.1 6)]))], [(X 19, .inl (G.2.1 6, 2, .inr (.inr (.inr (.inr (refA 2 Z))))))], famW 2 (fun ι => slP G (Z ι) (sz ι)), [(X 20, .inr (8, [.ref (X 21), .int (nI wn), .int ws]))], [(X 21, .inl (G.2.1 0, 6, .inl wf))]]) rfl (by decide) (by decide) ?_
    rintro _ _ ⟨rfl, rfl⟩
    exact V_iret hC hQ hr [4, 0, 1, 2, 3, 5, 6, 7, 8, 9] (u := [[(X 0, .inr (9, [.ref (X 1), .int (nI nb), .ref (X 2), .ref (X 6), .ref (X 8), .ref (X 10), .ref (X 14), .ref (X 18), .int (nI nl), .int du, .ref (X 19), .int mo, .ref (X 20), .int cl]))], [(X 2, .inr (6, [.int (nI n), .ref (X 3), .ref (X 4), .ref (X 5)]))], [(X 3, .inl (G.2.1 0, 8, .inl f))], [(X 4, .inl (G.2.1 0, 8, .inl g))], [(X 5, .inl (G.2.1 0, 8, .inl h))], [(X 10, .inr (3, [.ref (X 11), .ref (X 12), .ref (X 13), .int (nI S.2.1), .ref (O 0), .int (S.1 0), .int (S.1 1), .int (S.1 2), .int (S.1 3), .int (S.1 4), .int (S.1 5), .int (S.1 6)]))], [(X 19, .inl (G.2.1 6, 2, .inr (.inr (.inr (.inr (refA 2 Z))))))], famW 2 (fun ι => slP G (Z ι) (sz ι)), [(X 20, .inr (8, [.ref (X 21), .int (nI wn), .int ws]))], [(X 21, .inl (G.2.1 0, 6, .inl wf))]]) (by decide) rfl (by decide) (by decide) dX8_many_112 (⟨rfl, rfl⟩)
  · refine V_iload_n hC dX8_many_7 1 rfl ?_
    refine V_tabIn hC dX8_many_8 (by decide) (by decide) (off := 105) (by decide) (tgt := 113) (by decide) ?_
    refine V_aload_n hC dX8_many_113 0 rfl ?_
    refine V_get hC dX8_many_114 inAX8 (mem_at 0 0 rfl rfl) rfl 5 (by decide) q277 rfl (v := .ref (X 10)) rfl ?_
    refine V_get hC dX8_many_117 inAX2 (mem_at 5 0 rfl rfl) rfl 3 (by decide) q140 rfl (v := .int (nI S.2.1)) rfl ?_
    exact V_iret hC hQ hr [0, 1, 2, 3, 4, 5, 6, 7, 8, 9] (u := [[(X 0, .inr (9, [.ref (X 1), .int (nI nb), .ref (X 2), .ref (X 6), .ref (X 8), .ref (X 10), .ref (X 14), .ref (X 18), .int (nI nl), .int du, .ref (X 19), .int mo, .ref (X 20), .int cl]))], [(X 2, .inr (6, [.int (nI n), .ref (X 3), .ref (X 4), .ref (X 5)]))], [(X 3, .inl (G.2.1 0, 8, .inl f))], [(X 4, .inl (G.2.1 0, 8, .inl g))], [(X 5, .inl (G.2.1 0, 8, .inl h))], [(X 10, .inr (3, [.ref (X 11), .ref (X 12), .ref (X 13), .int (nI S.2.1), .ref (O 0), .int (S.1 0), .int (S.1 1), .int (S.1 2), .int (S.1 3), .int (S.1 4), .int (S.1 5), .int (S.1 6)]))], [(X 19, .inl (G.2.1 6, 2, .inr (.inr (.inr (.inr (refA 2 Z))))))], famW 2 (fun ι => slP G (Z ι) (sz ι)), [(X 20, .inr (8, [.ref (X 21), .int (nI wn), .int ws]))], [(X 21, .inl (G.2.1 0, 6, .inl wf))]]) (by decide) rfl (by decide) (by decide) dX8_many_120 (⟨rfl, rfl⟩)
  · refine V_iload_n hC dX8_many_7 1 rfl ?_
    refine V_tabIn hC dX8_many_8 (by decide) (by decide) (off := 113) (by decide) (tgt := 121) (by decide) ?_
    refine V_aload_n hC dX8_many_121 0 rfl ?_
    refine V_get hC dX8_many_122 inAX8 (mem_at 0 0 rfl rfl) rfl 5 (by decide) q277 rfl (v := .ref (X 10)) rfl ?_
    refine V_get hC dX8_many_125 inAX2 (mem_at 5 0 rfl rfl) rfl 5 (by decide) q144 rfl (v := .int (S.1 0)) rfl ?_
    exact V_iret hC hQ hr [0, 1, 2, 3, 4, 5, 6, 7, 8, 9] (u := [[(X 0, .inr (9, [.ref (X 1), .int (nI nb), .ref (X 2), .ref (X 6), .ref (X 8), .ref (X 10), .ref (X 14), .ref (X 18), .int (nI nl), .int du, .ref (X 19), .int mo, .ref (X 20), .int cl]))], [(X 2, .inr (6, [.int (nI n), .ref (X 3), .ref (X 4), .ref (X 5)]))], [(X 3, .inl (G.2.1 0, 8, .inl f))], [(X 4, .inl (G.2.1 0, 8, .inl g))], [(X 5, .inl (G.2.1 0, 8, .inl h))], [(X 10, .inr (3, [.ref (X 11), .ref (X 12), .ref (X 13), .int (nI S.2.1), .ref (O 0), .int (S.1 0), .int (S.1 1), .int (S.1 2), .int (S.1 3), .int (S.1 4), .int (S.1 5), .int (S.1 6)]))], [(X 19, .inl (G.2.1 6, 2, .inr (.inr (.inr (.inr (refA 2 Z))))))], famW 2 (fun ι => slP G (Z ι) (sz ι)), [(X 20, .inr (8, [.ref (X 21), .int (nI wn), .int ws]))], [(X 21, .inl (G.2.1 0, 6, .inl wf))]]) (by decide) rfl (by decide) (by decide) dX8_many_128 (⟨rfl, rfl⟩)
  · refine V_iload_n hC dX8_many_7 1 rfl ?_
    refine V_tabIn hC dX8_many_8 (by decide) (by decide) (off := 121) (by decide) (tgt := 129) (by decide) ?_
    refine V_aload_n hC dX8_many_129 0 rfl ?_
    refine V_get hC dX8_many_130 inAX8 (mem_at 0 0 rfl rfl) rfl 5 (by decide) q277 rfl (v := .ref (X 10)) rfl ?_
    refine V_get hC dX8_many_133 inAX2 (mem_at 5 0 rfl rfl) rfl 6 (by decide) q146 rfl (v := .int (S.1 1)) rfl ?_
    exact V_iret hC hQ hr [0, 1, 2, 3, 4, 5, 6, 7, 8, 9] (u := [[(X 0, .inr (9, [.ref (X 1), .int (nI nb), .ref (X 2), .ref (X 6), .ref (X 8), .ref (X 10), .ref (X 14), .ref (X 18), .int (nI nl), .int du, .ref (X 19), .int mo, .ref (X 20), .int cl]))], [(X 2, .inr (6, [.int (nI n), .ref (X 3), .ref (X 4), .ref (X 5)]))], [(X 3, .inl (G.2.1 0, 8, .inl f))], [(X 4, .inl (G.2.1 0, 8, .inl g))], [(X 5, .inl (G.2.1 0, 8, .inl h))], [(X 10, .inr (3, [.ref (X 11), .ref (X 12), .ref (X 13), .int (nI S.2.1), .ref (O 0), .int (S.1 0), .int (S.1 1), .int (S.1 2), .int (S.1 3), .int (S.1 4), .int (S.1 5), .int (S.1 6)]))], [(X 19, .inl (G.2.1 6, 2, .inr (.inr (.inr (.inr (refA 2 Z))))))], famW 2 (fun ι => slP G (Z ι) (sz ι)), [(X 20, .inr (8, [.ref (X 21), .int (nI wn), .int ws]))], [(X 21, .inl (G.2.1 0, 6, .inl wf))]]) (by decide) rfl (by decide) (by decide) dX8_many_136 (⟨rfl, rfl⟩)
  · refine V_iload_n hC dX8_many_7 1 rfl ?_
    refine V_tabIn hC dX8_many_8 (by decide) (by decide) (off := 129) (by decide) (tgt := 137) (by decide) ?_
    refine V_aload_n hC dX8_many_137 0 rfl ?_
    refine V_get hC dX8_many_138 inAX8 (mem_at 0 0 rfl rfl) rfl 5 (by decide) q277 rfl (v := .ref (X 10)) rfl ?_
    refine V_get hC dX8_many_141 inAX2 (mem_at 5 0 rfl rfl) rfl 8 (by decide) q150 rfl (v := .int (S.1 3)) rfl ?_
    exact V_iret hC hQ hr [0, 1, 2, 3, 4, 5, 6, 7, 8, 9] (u := [[(X 0, .inr (9, [.ref (X 1), .int (nI nb), .ref (X 2), .ref (X 6), .ref (X 8), .ref (X 10), .ref (X 14), .ref (X 18), .int (nI nl), .int du, .ref (X 19), .int mo, .ref (X 20), .int cl]))], [(X 2, .inr (6, [.int (nI n), .ref (X 3), .ref (X 4), .ref (X 5)]))], [(X 3, .inl (G.2.1 0, 8, .inl f))], [(X 4, .inl (G.2.1 0, 8, .inl g))], [(X 5, .inl (G.2.1 0, 8, .inl h))], [(X 10, .inr (3, [.ref (X 11), .ref (X 12), .ref (X 13), .int (nI S.2.1), .ref (O 0), .int (S.1 0), .int (S.1 1), .int (S.1 2), .int (S.1 3), .int (S.1 4), .int (S.1 5), .int (S.1 6)]))], [(X 19, .inl (G.2.1 6, 2, .inr (.inr (.inr (.inr (refA 2 Z))))))], famW 2 (fun ι => slP G (Z ι) (sz ι)), [(X 20, .inr (8, [.ref (X 21), .int (nI wn), .int ws]))], [(X 21, .inl (G.2.1 0, 6, .inl wf))]]) (by decide) rfl (by decide) (by decide) dX8_many_144 (⟨rfl, rfl⟩)
  · refine V_iload_n hC dX8_many_7 1 rfl ?_
    refine V_tabIn hC dX8_many_8 (by decide) (by decide) (off := 137) (by decide) (tgt := 145) (by decide) ?_
    refine V_aload_n hC dX8_many_145 0 rfl ?_
    refine V_get hC dX8_many_146 inAX8 (mem_at 0 0 rfl rfl) rfl 5 (by decide) q277 rfl (v := .ref (X 10)) rfl ?_
    refine V_get hC dX8_many_149 inAX2 (mem_at 5 0 rfl rfl) rfl 7 (by decide) q148 rfl (v := .int (S.1 2)) rfl ?_
    exact V_iret hC hQ hr [0, 1, 2, 3, 4, 5, 6, 7, 8, 9] (u := [[(X 0, .inr (9, [.ref (X 1), .int (nI nb), .ref (X 2), .ref (X 6), .ref (X 8), .ref (X 10), .ref (X 14), .ref (X 18), .int (nI nl), .int du, .ref (X 19), .int mo, .ref (X 20), .int cl]))], [(X 2, .inr (6, [.int (nI n), .ref (X 3), .ref (X 4), .ref (X 5)]))], [(X 3, .inl (G.2.1 0, 8, .inl f))], [(X 4, .inl (G.2.1 0, 8, .inl g))], [(X 5, .inl (G.2.1 0, 8, .inl h))], [(X 10, .inr (3, [.ref (X 11), .ref (X 12), .ref (X 13), .int (nI S.2.1), .ref (O 0), .int (S.1 0), .int (S.1 1), .int (S.1 2), .int (S.1 3), .int (S.1 4), .int (S.1 5), .int (S.1 6)]))], [(X 19, .inl (G.2.1 6, 2, .inr (.inr (.inr (.inr (refA 2 Z))))))], famW 2 (fun ι => slP G (Z ι) (sz ι)), [(X 20, .inr (8, [.ref (X 21), .int (nI wn), .int ws]))], [(X 21, .inl (G.2.1 0, 6, .inl wf))]]) (by decide) rfl (by decide) (by decide) dX8_many_152 (⟨rfl, rfl⟩)
  · refine V_iload_n hC dX8_many_7 1 rfl ?_
    refine V_tabIn hC dX8_many_8 (by decide) (by decide) (off := 145) (by decide) (tgt := 153) (by decide) ?_
    refine V_aload_n hC dX8_many_153 0 rfl ?_
    refine V_get hC dX8_many_154 inAX8 (mem_at 0 0 rfl rfl) rfl 5 (by decide) q277 rfl (v := .ref (X 10)) rfl ?_
    refine V_get hC dX8_many_157 inAX2 (mem_at 5 0 rfl rfl) rfl 9 (by decide) q152 rfl (v := .int (S.1 4)) rfl ?_
    exact V_iret hC hQ hr [0, 1, 2, 3, 4, 5, 6, 7, 8, 9] (u := [[(X 0, .inr (9, [.ref (X 1), .int (nI nb), .ref (X 2), .ref (X 6), .ref (X 8), .ref (X 10), .ref (X 14), .ref (X 18), .int (nI nl), .int du, .ref (X 19), .int mo, .ref (X 20), .int cl]))], [(X 2, .inr (6, [.int (nI n), .ref (X 3), .ref (X 4), .ref (X 5)]))], [(X 3, .inl (G.2.1 0, 8, .inl f))], [(X 4, .inl (G.2.1 0, 8, .inl g))], [(X 5, .inl (G.2.1 0, 8, .inl h))], [(X 10, .inr (3, [.ref (X 11), .ref (X 12), .ref (X 13), .int (nI S.2.1), .ref (O 0), .int (S.1 0), .int (S.1 1), .int (S.1 2), .int (S.1 3), .int (S.1 4), .int (S.1 5), .int (S.1 6)]))], [(X 19, .inl (G.2.1 6, 2, .inr (.inr (.inr (.inr (refA 2 Z))))))], famW 2 (fun ι => slP G (Z ι) (sz ι)), [(X 20, .inr (8, [.ref (X 21), .int (nI wn), .int ws]))], [(X 21, .inl (G.2.1 0, 6, .inl wf))]]) (by decide) rfl (by decide) (by decide) dX8_many_160 (⟨rfl, rfl⟩)
  · refine V_iload_n hC dX8_many_7 1 rfl ?_
    refine V_tabIn hC dX8_many_8 (by decide) (by decide) (off := 153) (by decide) (tgt := 161) (by decide) ?_
    refine V_aload_n hC dX8_many_161 0 rfl ?_
    refine V_get hC dX8_many_162 inAX8 (mem_at 0 0 rfl rfl) rfl 5 (by decide) q277 rfl (v := .ref (X 10)) rfl ?_
    refine V_get hC dX8_many_165 inAX2 (mem_at 5 0 rfl rfl) rfl 10 (by decide) q154 rfl (v := .int (S.1 5)) rfl ?_
    exact V_iret hC hQ hr [0, 1, 2, 3, 4, 5, 6, 7, 8, 9] (u := [[(X 0, .inr (9, [.ref (X 1), .int (nI nb), .ref (X 2), .ref (X 6), .ref (X 8), .ref (X 10), .ref (X 14), .ref (X 18), .int (nI nl), .int du, .ref (X 19), .int mo, .ref (X 20), .int cl]))], [(X 2, .inr (6, [.int (nI n), .ref (X 3), .ref (X 4), .ref (X 5)]))], [(X 3, .inl (G.2.1 0, 8, .inl f))], [(X 4, .inl (G.2.1 0, 8, .inl g))], [(X 5, .inl (G.2.1 0, 8, .inl h))], [(X 10, .inr (3, [.ref (X 11), .ref (X 12), .ref (X 13), .int (nI S.2.1), .ref (O 0), .int (S.1 0), .int (S.1 1), .int (S.1 2), .int (S.1 3), .int (S.1 4), .int (S.1 5), .int (S.1 6)]))], [(X 19, .inl (G.2.1 6, 2, .inr (.inr (.inr (.inr (refA 2 Z))))))], famW 2 (fun ι => slP G (Z ι) (sz ι)), [(X 20, .inr (8, [.ref (X 21), .int (nI wn), .int ws]))], [(X 21, .inl (G.2.1 0, 6, .inl wf))]]) (by decide) rfl (by decide) (by decide) dX8_many_168 (⟨rfl, rfl⟩)
  · refine V_iload_n hC dX8_many_7 1 rfl ?_
    refine V_tabIn hC dX8_many_8 (by decide) (by decide) (off := 161) (by decide) (tgt := 169) (by decide) ?_
    refine V_aload_n hC dX8_many_169 0 rfl ?_
    refine V_get hC dX8_many_170 inAX8 (mem_at 0 0 rfl rfl) rfl 8 (by decide) q280 rfl (v := .int (nI nl)) rfl ?_
    exact V_iret hC hQ hr [0, 1, 2, 3, 4, 5, 6, 7, 8, 9] (u := [[(X 0, .inr (9, [.ref (X 1), .int (nI nb), .ref (X 2), .ref (X 6), .ref (X 8), .ref (X 10), .ref (X 14), .ref (X 18), .int (nI nl), .int du, .ref (X 19), .int mo, .ref (X 20), .int cl]))], [(X 2, .inr (6, [.int (nI n), .ref (X 3), .ref (X 4), .ref (X 5)]))], [(X 3, .inl (G.2.1 0, 8, .inl f))], [(X 4, .inl (G.2.1 0, 8, .inl g))], [(X 5, .inl (G.2.1 0, 8, .inl h))], [(X 10, .inr (3, [.ref (X 11), .ref (X 12), .ref (X 13), .int (nI S.2.1), .ref (O 0), .int (S.1 0), .int (S.1 1), .int (S.1 2), .int (S.1 3), .int (S.1 4), .int (S.1 5), .int (S.1 6)]))], [(X 19, .inl (G.2.1 6, 2, .inr (.inr (.inr (.inr (refA 2 Z))))))], famW 2 (fun ι => slP G (Z ι) (sz ι)), [(X 20, .inr (8, [.ref (X 21), .int (nI wn), .int ws]))], [(X 21, .inl (G.2.1 0, 6, .inl wf))]]) (by decide) rfl (by decide) (by decide) dX8_many_173 (⟨rfl, rfl⟩)
  · refine V_iload_n hC dX8_many_7 1 rfl ?_
    refine V_tabIn hC dX8_many_8 (by decide) (by decide) (off := 166) (by decide) (tgt := 174) (by decide) ?_
    refine V_aload_n hC dX8_many_174 0 rfl ?_
    refine V_get hC dX8_many_175 inAX8 (mem_at 0 0 rfl rfl) rfl 9 (by decide) q281 rfl (v := .int du) rfl ?_
    exact V_iret hC hQ hr [0, 1, 2, 3, 4, 5, 6, 7, 8, 9] (u := [[(X 0, .inr (9, [.ref (X 1), .int (nI nb), .ref (X 2), .ref (X 6), .ref (X 8), .ref (X 10), .ref (X 14), .ref (X 18), .int (nI nl), .int du, .ref (X 19), .int mo, .ref (X 20), .int cl]))], [(X 2, .inr (6, [.int (nI n), .ref (X 3), .ref (X 4), .ref (X 5)]))], [(X 3, .inl (G.2.1 0, 8, .inl f))], [(X 4, .inl (G.2.1 0, 8, .inl g))], [(X 5, .inl (G.2.1 0, 8, .inl h))], [(X 10, .inr (3, [.ref (X 11), .ref (X 12), .ref (X 13), .int (nI S.2.1), .ref (O 0), .int (S.1 0), .int (S.1 1), .int (S.1 2), .int (S.1 3), .int (S.1 4), .int (S.1 5), .int (S.1 6)]))], [(X 19, .inl (G.2.1 6, 2, .inr (.inr (.inr (.inr (refA 2 Z))))))], famW 2 (fun ι => slP G (Z ι) (sz ι)), [(X 20, .inr (8, [.ref (X 21), .int (nI wn), .int ws]))], [(X 21, .inl (G.2.1 0, 6, .inl wf))]]) (by decide) rfl (by decide) (by decide) dX8_many_178 (⟨rfl, rfl⟩)
  · refine V_iload_n hC dX8_many_7 1 rfl ?_
    refine V_tabIn hC dX8_many_8 (by decide) (by decide) (off := 171) (by decide) (tgt := 179) (by decide) ?_
    refine V_aload_n hC dX8_many_179 0 rfl ?_
    refine V_get hC dX8_many_180 inAX8 (mem_at 0 0 rfl rfl) rfl 5 (by decide) q277 rfl (v := .ref (X 10)) rfl ?_
    refine V_get hC dX8_many_183 inAX2 (mem_at 5 0 rfl rfl) rfl 11 (by decide) q156 rfl (v := .int (S.1 6)) rfl ?_
    exact V_iret hC hQ hr [0, 1, 2, 3, 4, 5, 6, 7, 8, 9] (u := [[(X 0, .inr (9, [.ref (X 1), .int (nI nb), .ref (X 2), .ref (X 6), .ref (X 8), .ref (X 10), .ref (X 14), .ref (X 18), .int (nI nl), .int du, .ref (X 19), .int mo, .ref (X 20), .int cl]))], [(X 2, .inr (6, [.int (nI n), .ref (X 3), .ref (X 4), .ref (X 5)]))], [(X 3, .inl (G.2.1 0, 8, .inl f))], [(X 4, .inl (G.2.1 0, 8, .inl g))], [(X 5, .inl (G.2.1 0, 8, .inl h))], [(X 10, .inr (3, [.ref (X 11), .ref (X 12), .ref (X 13), .int (nI S.2.1), .ref (O 0), .int (S.1 0), .int (S.1 1), .int (S.1 2), .int (S.1 3), .int (S.1 4), .int (S.1 5), .int (S.1 6)]))], [(X 19, .inl (G.2.1 6, 2, .inr (.inr (.inr (.inr (refA 2 Z))))))], famW 2 (fun ι => slP G (Z ι) (sz ι)), [(X 20, .inr (8, [.ref (X 21), .int (nI wn), .int ws]))], [(X 21, .inl (G.2.1 0, 6, .inl wf))]]) (by decide) rfl (by decide) (by decide) dX8_many_186 (⟨rfl, rfl⟩)
  · refine V_iload_n hC dX8_many_7 1 rfl ?_
    refine V_tabIn hC dX8_many_8 (by decide) (by decide) (off := 179) (by decide) (tgt := 187) (by decide) ?_
    refine V_aload_n hC dX8_many_187 0 rfl ?_
    refine V_get hC dX8_many_188 inAX8 (mem_at 0 0 rfl rfl) rfl 11 (by decide) q283 rfl (v := .int mo) rfl ?_
    exact V_iret hC hQ hr [0, 1, 2, 3, 4, 5, 6, 7, 8, 9] (u := [[(X 0, .inr (9, [.ref (X 1), .int (nI nb), .ref (X 2), .ref (X 6), .ref (X 8), .ref (X 10), .ref (X 14), .ref (X 18), .int (nI nl), .int du, .ref (X 19), .int mo, .ref (X 20), .int cl]))], [(X 2, .inr (6, [.int (nI n), .ref (X 3), .ref (X 4), .ref (X 5)]))], [(X 3, .inl (G.2.1 0, 8, .inl f))], [(X 4, .inl (G.2.1 0, 8, .inl g))], [(X 5, .inl (G.2.1 0, 8, .inl h))], [(X 10, .inr (3, [.ref (X 11), .ref (X 12), .ref (X 13), .int (nI S.2.1), .ref (O 0), .int (S.1 0), .int (S.1 1), .int (S.1 2), .int (S.1 3), .int (S.1 4), .int (S.1 5), .int (S.1 6)]))], [(X 19, .inl (G.2.1 6, 2, .inr (.inr (.inr (.inr (refA 2 Z))))))], famW 2 (fun ι => slP G (Z ι) (sz ι)), [(X 20, .inr (8, [.ref (X 21), .int (nI wn), .int ws]))], [(X 21, .inl (G.2.1 0, 6, .inl wf))]]) (by decide) rfl (by decide) (by decide) dX8_many_191 (⟨rfl, rfl⟩)
  · refine V_iload_n hC dX8_many_7 1 rfl ?_
    refine V_tabIn hC dX8_many_8 (by decide) (by decide) (off := 184) (by decide) (tgt := 192) (by decide) ?_
    refine V_aload_n hC dX8_many_192 0 rfl ?_
    refine V_get hC dX8_many_193 inAX8 (mem_at 0 0 rfl rfl) rfl 13 (by decide) q285 rfl (v := .int cl) rfl ?_
    exact V_iret hC hQ hr [0, 1, 2, 3, 4, 5, 6, 7, 8, 9] (u := [[(X 0, .inr (9, [.ref (X 1), .int (nI nb), .ref (X 2), .ref (X 6), .ref (X 8), .ref (X 10), .ref (X 14), .ref (X 18), .int (nI nl), .int du, .ref (X 19), .int mo, .ref (X 20), .int cl]))], [(X 2, .inr (6, [.int (nI n), .ref (X 3), .ref (X 4), .ref (X 5)]))], [(X 3, .inl (G.2.1 0, 8, .inl f))], [(X 4, .inl (G.2.1 0, 8, .inl g))], [(X 5, .inl (G.2.1 0, 8, .inl h))], [(X 10, .inr (3, [.ref (X 11), .ref (X 12), .ref (X 13), .int (nI S.2.1), .ref (O 0), .int (S.1 0), .int (S.1 1), .int (S.1 2), .int (S.1 3), .int (S.1 4), .int (S.1 5), .int (S.1 6)]))], [(X 19, .inl (G.2.1 6, 2, .inr (.inr (.inr (.inr (refA 2 Z))))))], famW 2 (fun ι => slP G (Z ι) (sz ι)), [(X 20, .inr (8, [.ref (X 21), .int (nI wn), .int ws]))], [(X 21, .inl (G.2.1 0, 6, .inl wf))]]) (by decide) rfl (by decide) (by decide) dX8_many_196 (⟨rfl, rfl⟩)
  · refine V_iload_n hC dX8_many_7 1 rfl ?_
    refine V_tabIn hC dX8_many_8 (by decide) (by decide) (off := 189) (by decide) (tgt := 197) (by decide) ?_
    refine V_aload_n hC dX8_many_197 0 rfl ?_
    refine V_get hC dX8_many_198 inAX8 (mem_at 0 0 rfl rfl) rfl 12 (by decide) q284 rfl (v := .ref (X 20)) rfl ?_
    refine V_get hC dX8_many_201 inAX7 (mem_at 8 0 rfl rfl) rfl 1 (by decide) q194 rfl (v := .int (nI wn)) rfl ?_
    exact V_iret hC hQ hr [0, 1, 2, 3, 4, 5, 6, 7, 8, 9] (u := [[(X 0, .inr (9, [.ref (X 1), .int (nI nb), .ref (X 2), .ref (X 6), .ref (X 8), .ref (X 10), .ref (X 14), .ref (X 18), .int (nI nl), .int du, .ref (X 19), .int mo, .ref (X 20), .int cl]))], [(X 2, .inr (6, [.int (nI n), .ref (X 3), .ref (X 4), .ref (X 5)]))], [(X 3, .inl (G.2.1 0, 8, .inl f))], [(X 4, .inl (G.2.1 0, 8, .inl g))], [(X 5, .inl (G.2.1 0, 8, .inl h))], [(X 10, .inr (3, [.ref (X 11), .ref (X 12), .ref (X 13), .int (nI S.2.1), .ref (O 0), .int (S.1 0), .int (S.1 1), .int (S.1 2), .int (S.1 3), .int (S.1 4), .int (S.1 5), .int (S.1 6)]))], [(X 19, .inl (G.2.1 6, 2, .inr (.inr (.inr (.inr (refA 2 Z))))))], famW 2 (fun ι => slP G (Z ι) (sz ι)), [(X 20, .inr (8, [.ref (X 21), .int (nI wn), .int ws]))], [(X 21, .inl (G.2.1 0, 6, .inl wf))]]) (by decide) rfl (by decide) (by decide) dX8_many_204 (⟨rfl, rfl⟩)
  · refine V_iload_n hC dX8_many_7 1 rfl ?_
    refine V_tabIn hC dX8_many_8 (by decide) (by decide) (off := 197) (by decide) (tgt := 205) (by decide) ?_
    refine V_aload_n hC dX8_many_205 0 rfl ?_
    refine V_get hC dX8_many_206 inAX8 (mem_at 0 0 rfl rfl) rfl 10 (by decide) q282 rfl (v := .ref (X 19)) rfl ?_
    refine V_iconst hC dX8_many_209 (v := 0) (by decide) ?_
    refine V_aald hC dX8_many_210 6 rfl (mem_at 6 0 rfl rfl) (vin (by decide)) (x := 0) (by decide) (b := (Z 0) 0) (rfl) ?_
    refine V_get hC dX8_many_211 inAX6 (mem_fam 7 0 rfl 0 (by decide) rfl) rfl 2 (by decide) q264 rfl (v := .int ((sz 0).2.1)) rfl ?_
    refine V_calli hC (V_runS hC (rest := []) [.int ((sz 0).2.1)] (c_X8_asNumber l G ((sz 0).2.1) (hsh 0 (by decide))) [] rfl (by decide) q584 q585 q20 q586 ⟨by decide, by decide, rfl⟩ ⟨by decide, by decide⟩ rfl (Nat.le_of_ble_eq_true rfl) ⟨by decide, by decide⟩ dX8_many_214) (is := []) rfl [0, 1, 2, 3, 4, 5, 6, 7, 8, 9] (rs := [[(X 0, .inr (9, [.ref (X 1), .int (nI nb), .ref (X 2), .ref (X 6), .ref (X 8), .ref (X 10), .ref (X 14), .ref (X 18), .int (nI nl), .int du, .ref (X 19), .int mo, .ref (X 20), .int cl]))], [(X 2, .inr (6, [.int (nI n), .ref (X 3), .ref (X 4), .ref (X 5)]))], [(X 3, .inl (G.2.1 0, 8, .inl f))], [(X 4, .inl (G.2.1 0, 8, .inl g))], [(X 5, .inl (G.2.1 0, 8, .inl h))], [(X 10, .inr (3, [.ref (X 11), .ref (X 12), .ref (X 13), .int (nI S.2.1), .ref (O 0), .int (S.1 0), .int (S.1 1), .int (S.1 2), .int (S.1 3), .int (S.1 4), .int (S.1 5), .int (S.1 6)]))], [(X 19, .inl (G.2.1 6, 2, .inr (.inr (.inr (.inr (refA 2 Z))))))], famW 2 (fun ι => slP G (Z ι) (sz ι)), [(X 20, .inr (8, [.ref (X 21), .int (nI wn), .int ws]))], [(X 21, .inl (G.2.1 0, 6, .inl wf))]]) rfl (by decide) (by decide) ?_
    rintro _ _ ⟨rfl, rfl⟩
    refine V_iconst hC dX8_many_217 (v := 2) (by decide) ?_
    refine V_aload_n hC dX8_many_218 0 rfl ?_
    refine V_get hC dX8_many_219 inAX8 (mem_at 0 0 rfl rfl) rfl 10 (by decide) q282 rfl (v := .ref (X 19)) rfl ?_
    refine V_iconst hC dX8_many_222 (v := 1) (by decide) ?_
    refine V_aald hC dX8_many_223 6 rfl (mem_at 6 0 rfl rfl) (vin (by decide)) (x := 1) (by decide) (b := (Z 1) 0) (rfl) ?_
    refine V_get hC dX8_many_224 inAX6 (mem_fam 7 0 rfl 1 (by decide) rfl) rfl 2 (by decide) q264 rfl (v := .int ((sz 1).2.1)) rfl ?_
    refine V_calli hC (V_runS hC (rest := [.int 2, .int ((sz 0).2.1)]) [.int ((sz 1).2.1)] (c_X8_asNumber l G ((sz 1).2.1) (hsh 1 (by decide))) [] rfl (by decide) q584 q585 q20 q586 ⟨by decide, by decide, rfl⟩ ⟨by decide, by decide⟩ rfl (Nat.le_of_ble_eq_true rfl) ⟨by decide, by decide⟩ dX8_many_227) (is := []) rfl [0, 1, 2, 3, 4, 5, 6, 7, 8, 9] (rs := [[(X 0, .inr (9, [.ref (X 1), .int (nI nb), .ref (X 2), .ref (X 6), .ref (X 8), .ref (X 10), .ref (X 14), .ref (X 18), .int (nI nl), .int du, .ref (X 19), .int mo, .ref (X 20), .int cl]))], [(X 2, .inr (6, [.int (nI n), .ref (X 3), .ref (X 4), .ref (X 5)]))], [(X 3, .inl (G.2.1 0, 8, .inl f))], [(X 4, .inl (G.2.1 0, 8, .inl g))], [(X 5, .inl (G.2.1 0, 8, .inl h))], [(X 10, .inr (3, [.ref (X 11), .ref (X 12), .ref (X 13), .int (nI S.2.1), .ref (O 0), .int (S.1 0), .int (S.1 1), .int (S.1 2), .int (S.1 3), .int (S.1 4), .int (S.1 5), .int (S.1 6)]))], [(X 19, .inl (G.2.1 6, 2, .inr (.inr (.inr (.inr (refA 2 Z))))))], famW 2 (fun ι => slP G (Z ι) (sz ι)), [(X 20, .inr (8, [.ref (X 21), .int (nI wn), .int ws]))], [(X 21, .inl (G.2.1 0, 6, .inl wf))]]) rfl (by decide) (by decide) ?_
    rintro _ _ ⟨rfl, rfl⟩
    refine V_imul hC dX8_many_230 ?_
    refine V_iadd hC dX8_many_231 ?_
    exact V_iret hC hQ hr [0, 1, 2, 3, 4, 5, 6, 7, 8, 9] (u := [[(X 0, .inr (9, [.ref (X 1), .int (nI nb), .ref (X 2), .ref (X 6), .ref (X 8), .ref (X 10), .ref (X 14), .ref (X 18), .int (nI nl), .int du, .ref (X 19), .int mo, .ref (X 20), .int cl]))], [(X 2, .inr (6, [.int (nI n), .ref (X 3), .ref (X 4), .ref (X 5)]))], [(X 3, .inl (G.2.1 0, 8, .inl f))], [(X 4, .inl (G.2.1 0, 8, .inl g))], [(X 5, .inl (G.2.1 0, 8, .inl h))], [(X 10, .inr (3, [.ref (X 11), .ref (X 12), .ref (X 13), .int (nI S.2.1), .ref (O 0), .int (S.1 0), .int (S.1 1), .int (S.1 2), .int (S.1 3), .int (S.1 4), .int (S.1 5), .int (S.1 6)]))], [(X 19, .inl (G.2.1 6, 2, .inr (.inr (.inr (.inr (refA 2 Z))))))], famW 2 (fun ι => slP G (Z ι) (sz ι)), [(X 20, .inr (8, [.ref (X 21), .int (nI wn), .int ws]))], [(X 21, .inl (G.2.1 0, 6, .inl wf))]]) (by decide) rfl (by decide) (by decide) dX8_many_232 (⟨rfl, rfl⟩)
  · refine V_iload_n hC dX8_many_7 1 rfl ?_
    refine V_tabOut hC dX8_many_8 (by decide) (tgt := 233) (by decide) ?_
    refine V_aload_n hC dX8_many_233 0 rfl ?_
    refine V_get hC dX8_many_234 inAX8 (mem_at 0 0 rfl rfl) rfl 12 (by decide) q284 rfl (v := .ref (X 20)) rfl ?_
    refine V_get hC dX8_many_237 inAX7 (mem_at 8 0 rfl rfl) rfl 2 (by decide) q196 rfl (v := .int ws) rfl ?_
    exact V_iret hC hQ hr [0, 1, 2, 3, 4, 5, 6, 7, 8, 9] (u := [[(X 0, .inr (9, [.ref (X 1), .int (nI nb), .ref (X 2), .ref (X 6), .ref (X 8), .ref (X 10), .ref (X 14), .ref (X 18), .int (nI nl), .int du, .ref (X 19), .int mo, .ref (X 20), .int cl]))], [(X 2, .inr (6, [.int (nI n), .ref (X 3), .ref (X 4), .ref (X 5)]))], [(X 3, .inl (G.2.1 0, 8, .inl f))], [(X 4, .inl (G.2.1 0, 8, .inl g))], [(X 5, .inl (G.2.1 0, 8, .inl h))], [(X 10, .inr (3, [.ref (X 11), .ref (X 12), .ref (X 13), .int (nI S.2.1), .ref (O 0), .int (S.1 0), .int (S.1 1), .int (S.1 2), .int (S.1 3), .int (S.1 4), .int (S.1 5), .int (S.1 6)]))], [(X 19, .inl (G.2.1 6, 2, .inr (.inr (.inr (.inr (refA 2 Z))))))], famW 2 (fun ι => slP G (Z ι) (sz ι)), [(X 20, .inr (8, [.ref (X 21), .int (nI wn), .int ws]))], [(X 21, .inl (G.2.1 0, 6, .inl wf))]]) (by decide) rfl (by decide) (by decide) dX8_many_240 (⟨rfl, rfl⟩)
