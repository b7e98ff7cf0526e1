/-! ===== the class: its methods over pieces ===== -/
theorem ixB_of {x : Int32} {n : Nat} (h : ixB x (nI n) = 1) (hn : n < 2 ^ 31 := by omega) : ∃ i : Nat, i < n ∧ x = nI i := by
  unfold ixB at h
  split at h
  · exact absurd h (by decide)
  · split at h
    · exact absurd h (by decide)
    · rename_i a b
      obtain ⟨j, hj, rfl⟩ := nI_of a
      exact ⟨j, nnle b, rfl⟩
abbrev eIX (E : String) : Prop := E = "java/lang/IndexOutOfBoundsException"
abbrev eIA (E : String) : Prop := E = "java/lang/IllegalArgumentException"
abbrev eIS (E : String) : Prop := E = "java/lang/IllegalStateException"
abbrev inR (a b x : Int32) : Prop := a ≤ x ∧ x ≤ b
set_option maxHeartbeats 4000000 in
set_option maxRecDepth 100000 in
/-- ClinkerWorks.flame -/
theorem c_X8_flame (l : Launch) (hl0 : l.stackTraces = false) (G : VG) (X : Nat → Nat) (nb nl : Nat) (du mo cl : Int32) (O : Nat → Nat) (S : KS) (x : Int32) : Xi l G yX8_flame cX8_flame 3 .int 7 104 1 6 [.ref (X 0), .int x] [[(X 0, .inr (9, [.ref (X 1), .int (nI nb), .ref (X 2), .ref (X 6), .ref (X 8), .ref (X 10), .ref (X 14), .ref (X 18), .int (nI nl), .int du, .ref (X 19), .int mo, .ref (X 20), .int cl]))], [(X 10, .inr (3, [.ref (X 11), .ref (X 12), .ref (X 13), .int (nI S.2.1), .ref (O 0), .int (S.1 0), .int (S.1 1), .int (S.1 2), .int (S.1 3), .int (S.1 4), .int (S.1 5), .int (S.1 6)]))]] (fun r u => inR 0 9 x ∧ r = S.1 0 ∧ u = [[(X 0, .inr (9, [.ref (X 1), .int (nI nb), .ref (X 2), .ref (X 6), .ref (X 8), .ref (X 10), .ref (X 14), .ref (X 18), .int (nI nl), .int du, .ref (X 19), .int mo, .ref (X 20), .int cl]))], [(X 10, .inr (3, [.ref (X 11), .ref (X 12), .ref (X 13), .int (nI S.2.1), .ref (O 0), .int x, .int (S.1 1), .int (S.1 2), .int (S.1 3), .int (S.1 4), .int (S.1 5), .int (S.1 6)]))]]) (fun E => eIA E ∧ ¬ inR 0 9 x) := by
  refine Xi_of (by decide) (Nat.le_of_ble_eq_true rfl) (fun pP eE sS mM aA bB tT cC AA QQ hC hr hT hQ => ?_)
  refine V_iload_n hC dX8_flame_0 1 rfl ?_
  refine V_iconst hC dX8_flame_1 (v := 0) (by decide) ?_
  refine V_bipush hC dX8_flame_2 (v := 9) (by decide) ?_
  refine V_xcallS hC hT hQ [.int x, .int 0, .int 9] (c_X8_needArgument l hl0 G x 0 9) dX8_flame_4 q319 q320 q20 q321 ⟨by decide, by decide, rfl⟩ ⟨by decide, by decide⟩ rfl (Nat.le_of_ble_eq_true rfl) ⟨by decide, by decide⟩ rfl (by decide) (by decide) [0, 1] (by decide) rfl (fun E hE => hE) ?_ (fun u hu => hu.2)
  rintro _ ⟨hk1, rfl⟩ -
  refine V_aload_n hC dX8_flame_7 0 rfl ?_
  refine V_get hC dX8_flame_8 inAX8 (mem_at 0 0 rfl rfl) rfl 5 (by decide) q277 rfl (v := .ref (X 10)) rfl ?_
  refine V_get hC dX8_flame_11 inAX2 (mem_at 1 0 rfl rfl) rfl 5 (by decide) q144 rfl (v := .int (S.1 0)) rfl ?_
  refine V_istore_n hC dX8_flame_14 (L' := [(2, .int (S.1 0)), (0, .ref (X 0)), (1, .int x)]) (by decide) rfl ?_
  refine V_aload_n hC dX8_flame_15 1 rfl ?_
  refine V_get hC dX8_flame_16 inAX8 (mem_at 0 0 rfl rfl) rfl 5 (by decide) q277 rfl (v := .ref (X 10)) rfl ?_
  refine V_iload_n hC dX8_flame_19 2 rfl ?_
  refine V_put hC dX8_flame_20 inAX2 tyX2 tyX2_ok nmX2 1 0 rfl rfl rfl 5 (by decide) q144 rfl rfl (rfl) (rfl) (Nat.le_of_ble_eq_true rfl) (ps' := [[(X 0, .inr (9, [.ref (X 1), .int (nI nb), .ref (X 2), .ref (X 6), .ref (X 8), .ref (X 10), .ref (X 14), .ref (X 18), .int (nI nl), .int du, .ref (X 19), .int mo, .ref (X 20), .int cl]))], [(X 10, .inr (3, [.ref (X 11), .ref (X 12), .ref (X 13), .int (nI S.2.1), .ref (O 0), .int x, .int (S.1 1), .int (S.1 2), .int (S.1 3), .int (S.1 4), .int (S.1 5), .int (S.1 6)]))]]) rfl ?_
  refine V_iload_n hC dX8_flame_23 0 rfl ?_
  exact V_xiret hC hQ hr [0, 1] (u := [[(X 0, .inr (9, [.ref (X 1), .int (nI nb), .ref (X 2), .ref (X 6), .ref (X 8), .ref (X 10), .ref (X 14), .ref (X 18), .int (nI nl), .int du, .ref (X 19), .int mo, .ref (X 20), .int cl]))], [(X 10, .inr (3, [.ref (X 11), .ref (X 12), .ref (X 13), .int (nI S.2.1), .ref (O 0), .int x, .int (S.1 1), .int (S.1 2), .int (S.1 3), .int (S.1 4), .int (S.1 5), .int (S.1 6)]))]]) (by decide) rfl (by decide) (by decide) dX8_flame_24 (⟨hk1, rfl, rfl⟩)
set_option maxHeartbeats 4000000 in
set_option maxRecDepth 100000 in
/-- ClinkerWorks.coal -/
theorem c_X8_coal (l : Launch) (hl0 : l.stackTraces = false) (G : VG) (X : Nat → Nat) (nb nl : Nat) (du mo cl : Int32) (O : Nat → Nat) (S : KS) (x : Int32) : Xi l G yX8_coal cX8_coal 2 .int 7 104 1 6 [.ref (X 0), .int x] [[(X 0, .inr (9, [.ref (X 1), .int (nI nb), .ref (X 2), .ref (X 6), .ref (X 8), .ref (X 10), .ref (X 14), .ref (X 18), .int (nI nl), .int du, .ref (X 19), .int mo, .ref (X 20), .int cl]))], [(X 10, .inr (3, [.ref (X 11), .ref (X 12), .ref (X 13), .int (nI S.2.1), .ref (O 0), .int (S.1 0), .int (S.1 1), .int (S.1 2), .int (S.1 3), .int (S.1 4), .int (S.1 5), .int (S.1 6)]))]] (fun r u => inR 1 (999 - S.1 1) x ∧ r = S.1 1 + x ∧ u = [[(X 0, .inr (9, [.ref (X 1), .int (nI nb), .ref (X 2), .ref (X 6), .ref (X 8), .ref (X 10), .ref (X 14), .ref (X 18), .int (nI nl), .int du, .ref (X 19), .int mo, .ref (X 20), .int cl]))], [(X 10, .inr (3, [.ref (X 11), .ref (X 12), .ref (X 13), .int (nI S.2.1), .ref (O 0), .int (S.1 0), .int (S.1 1 + x), .int (S.1 2), .int (S.1 3), .int (S.1 4), .int (S.1 5), .int (S.1 6)]))]]) (fun E => eIA E ∧ ¬ inR 1 (999 - S.1 1) x) := by
  refine Xi_of (by decide) (Nat.le_of_ble_eq_true rfl) (fun pP eE sS mM aA bB tT cC AA QQ hC hr hT hQ => ?_)
  refine V_iload_n hC dX8_coal_0 1 rfl ?_
  refine V_iconst hC dX8_coal_1 (v := 1) (by decide) ?_
  refine V_sipush hC dX8_coal_2 (v := 999) (by decide) ?_
  refine V_aload_n hC dX8_coal_5 0 rfl ?_
  refine V_get hC dX8_coal_6 inAX8 (mem_at 0 0 rfl rfl) rfl 5 (by decide) q277 rfl (v := .ref (X 10)) rfl ?_
  refine V_get hC dX8_coal_9 inAX2 (mem_at 1 0 rfl rfl) rfl 6 (by decide) q146 rfl (v := .int (S.1 1)) rfl ?_
  refine V_isub hC dX8_coal_12 ?_
  refine V_xcallS hC hT hQ [.int x, .int 1, .int (999 - (S.1 1))] (c_X8_needArgument l hl0 G x 1 (999 - (S.1 1))) dX8_coal_13 q319 q320 q20 q321 ⟨by decide, by decide, rfl⟩ ⟨by decide, by decide⟩ rfl (Nat.le_of_ble_eq_true rfl) ⟨by decide, by decide⟩ rfl (by decide) (by decide) [0, 1] (by decide) rfl (fun E hE => hE) ?_ (fun u hu => hu.2)
  rintro _ ⟨hk1, rfl⟩ -
  refine V_aload_n hC dX8_coal_16 0 rfl ?_
  refine V_get hC dX8_coal_17 inAX8 (mem_at 0 0 rfl rfl) rfl 5 (by decide) q277 rfl (v := .ref (X 10)) rfl ?_
  refine V_dup hC dX8_coal_20 rfl ?_
  refine V_get hC dX8_coal_21 inAX2 (mem_at 1 0 rfl rfl) rfl 6 (by decide) q146 rfl (v := .int (S.1 1)) rfl ?_
  refine V_iload_n hC dX8_coal_24 1 rfl ?_
  refine V_iadd hC dX8_coal_25 ?_
  refine V_put hC dX8_coal_26 inAX2 tyX2 tyX2_ok nmX2 1 0 rfl rfl rfl 6 (by decide) q146 rfl rfl (rfl) (rfl) (Nat.le_of_ble_eq_true rfl) (ps' := [[(X 0, .inr (9, [.ref (X 1), .int (nI nb), .ref (X 2), .ref (X 6), .ref (X 8), .ref (X 10), .ref (X 14), .ref (X 18), .int (nI nl), .int du, .ref (X 19), .int mo, .ref (X 20), .int cl]))], [(X 10, .inr (3, [.ref (X 11), .ref (X 12), .ref (X 13), .int (nI S.2.1), .ref (O 0), .int (S.1 0), .int ((S.1 1) + x), .int (S.1 2), .int (S.1 3), .int (S.1 4), .int (S.1 5), .int (S.1 6)]))]]) rfl ?_
  refine V_aload_n hC dX8_coal_29 0 rfl ?_
  refine V_get hC dX8_coal_30 inAX8 (mem_at 0 0 rfl rfl) rfl 5 (by decide) q277 rfl (v := .ref (X 10)) rfl ?_
  refine V_get hC dX8_coal_33 inAX2 (mem_at 1 0 rfl rfl) rfl 6 (by decide) q146 rfl (v := .int ((S.1 1) + x)) rfl ?_
  exact V_xiret hC hQ hr [0, 1] (u := [[(X 0, .inr (9, [.ref (X 1), .int (nI nb), .ref (X 2), .ref (X 6), .ref (X 8), .ref (X 10), .ref (X 14), .ref (X 18), .int (nI nl), .int du, .ref (X 19), .int mo, .ref (X 20), .int cl]))], [(X 10, .inr (3, [.ref (X 11), .ref (X 12), .ref (X 13), .int (nI S.2.1), .ref (O 0), .int (S.1 0), .int ((S.1 1) + x), .int (S.1 2), .int (S.1 3), .int (S.1 4), .int (S.1 5), .int (S.1 6)]))]]) (by decide) rfl (by decide) (by decide) dX8_coal_36 (⟨hk1, rfl, rfl⟩)
set_option maxHeartbeats 4000000 in
set_option maxRecDepth 100000 in
/-- ClinkerWorks.isConform -/
theorem c_X8_isConform (l : Launch) (G : VG) (X : Nat → Nat) (nb nl : Nat) (du mo cl : Int32) (wn : Nat) (ws : Int32) (wf : Nat → Int32) (hwn : wn ≤ 6) : Mi l G yX8_isConform cX8_isConform 1 .boolean 2 43 0 0 [.ref (X 0)] [[(X 0, .inr (9, [.ref (X 1), .int (nI nb), .ref (X 2), .ref (X 6), .ref (X 8), .ref (X 10), .ref (X 14), .ref (X 18), .int (nI nl), .int du, .ref (X 19), .int mo, .ref (X 20), .int cl]))], [(X 20, .inr (8, [.ref (X 21), .int (nI wn), .int ws]))], [(X 21, .inl (G.2.1 0, 6, .inl wf))]] (fun r u => r = wiHolds wf wn ws ∧ u = [[(X 0, .inr (9, [.ref (X 1), .int (nI nb), .ref (X 2), .ref (X 6), .ref (X 8), .ref (X 10), .ref (X 14), .ref (X 18), .int (nI nl), .int du, .ref (X 19), .int mo, .ref (X 20), .int cl]))], [(X 20, .inr (8, [.ref (X 21), .int (nI wn), .int ws]))], [(X 21, .inl (G.2.1 0, 6, .inl wf))]]) := by
  refine Mi_of (by decide) (Nat.le_of_ble_eq_true rfl) (fun pP eE sS mM aA bB tT cC AA QQ hC hr hnm hQ => ?_)
  refine V_aload_n hC dX8_isConform_0 0 rfl ?_
  refine V_get hC dX8_isConform_1 inAX8 (mem_at 0 0 rfl rfl) rfl 12 (by decide) q284 rfl (v := .ref (X 20)) rfl ?_
  refine V_calli hC (V_runV hC (rest := []) [] (c_X7_holds l G (X 20) (X 21) wn ws wf hwn) [1, 2] rfl (by decide) q699 q700 q701 q25 q702 ⟨by decide, by decide, rfl⟩ ⟨by decide, by decide⟩ (ci := 8) rfl (mem_at 1 0 rfl rfl) rfl (Nat.le_of_ble_eq_true rfl) ⟨by decide, by decide⟩ dX8_isConform_4) (is := [1, 2]) rfl [0] (rs := [[(X 0, .inr (9, [.ref (X 1), .int (nI nb), .ref (X 2), .ref (X 6), .ref (X 8), .ref (X 10), .ref (X 14), .ref (X 18), .int (nI nl), .int du, .ref (X 19), .int mo, .ref (X 20), .int cl]))]]) rfl (by decide) (by decide) ?_
  rintro _ _ ⟨rfl, rfl⟩
  exact V_zret hC hQ hr (by unfold wiHolds; split; exact Or.inl rfl; split; exact Or.inl rfl; exact Or.inr rfl) [2, 0, 1] (u := [[(X 0, .inr (9, [.ref (X 1), .int (nI nb), .ref (X 2), .ref (X 6), .ref (X 8), .ref (X 10), .ref (X 14), .ref (X 18), .int (nI nl), .int du, .ref (X 19), .int mo, .ref (X 20), .int cl]))], [(X 20, .inr (8, [.ref (X 21), .int (nI wn), .int ws]))], [(X 21, .inl (G.2.1 0, 6, .inl wf))]]) (by decide) rfl (by decide) (by decide) dX8_isConform_7 (⟨rfl, rfl⟩)
