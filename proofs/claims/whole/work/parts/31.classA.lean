/-! ===== the class: its methods over pieces ===== -/
theorem ixB_of {x : Int32} {n : Nat} (h : ixB x (nI n) = 1) (hn : n < 2 ^ 31 := by omega) : ∃ i : Nat, i < n ∧ x = nI i := by
  unfold ixB at h
  split at h
  · exact absurd h (by decide)
  · split at h
    · exact absurd h (by decide)
    · rename_i a b
      obtain ⟨j, hj, rfl⟩ := nI_of a
      exact ⟨j, nnle b, rfl⟩
abbrev eIX (E : String) : Prop := E = "java/lang/IndexOutOfBoundsException"
abbrev eIA (E : String) : Prop := E = "java/lang/IllegalArgumentException"
abbrev eIS (E : String) : Prop := E = "java/lang/IllegalStateException"
abbrev inR (a b x : Int32) : Prop := a ≤ x ∧ x ≤ b
set_option maxHeartbeats 4000000 in
set_option maxRecDepth 100000 in
/-- ClinkerWorks.drill -/
theorem c_X8_drill (l : Launch) (hl0 : l.stackTraces = false) (G : VG) (X : Nat → Nat) (nb nl : Nat) (du mo cl : Int32) (B : Nat → Nat → Nat) (bz : Nat → BV) (b : Int32) (hnb : nb ≤ 6) : Xi l G yX8_drill cX8_drill 3 .boolean 7 103 1 6 [.ref (X 0), .int b] [[(X 0, .inr (9, [.ref (X 1), .int (nI nb), .ref (X 2), .ref (X 6), .ref (X 8), .ref (X 10), .ref (X 14), .ref (X 18), .int (nI nl), .int du, .ref (X 19), .int mo, .ref (X 20), .int cl]))], [(X 1, .inl (G.2.1 3, 6, .inr (.inr (.inr (.inr (refA 6 B))))))], famW 6 (fun ι => bkP G (B ι) (bz ι))] (fun r u => ∃ i : Nat, i < nb ∧ b = nI i ∧ r = (if (bz i).2.1 = 0 then 1 else 0) ∧ u = [[(X 0, .inr (9, [.ref (X 1), .int (nI nb), .ref (X 2), .ref (X 6), .ref (X 8), .ref (X 10), .ref (X 14), .ref (X 18), .int (nI nl), .int du, .ref (X 19), .int mo, .ref (X 20), .int cl]))], [(X 1, .inl (G.2.1 3, 6, .inr (.inr (.inr (.inr (refA 6 B))))))], famW 6 (fun ι => bkP G (B ι) ((va_up bz i ((bz i).1, 1, (bz i).2.2)) ι))]) (fun E => eIX E ∧ ixB b (nI nb) = 0) := by
  refine Xi_of (by decide) (Nat.le_of_ble_eq_true rfl) (fun pP eE sS mM aA bB tT cC AA QQ hC hr hT hQ => ?_)
  refine V_iload_n hC dX8_drill_0 1 rfl ?_
  refine V_aload_n hC dX8_drill_1 0 rfl ?_
  refine V_get hC dX8_drill_2 inAX8 (mem_at 0 0 rfl rfl) rfl 1 (by decide) q311 rfl (v := .int (nI nb)) rfl ?_
  refine V_xcallS hC hT hQ [.int b, .int (nI nb)] (c_X8_needIndex l hl0 G b (nI nb)) dX8_drill_5 q480 q481 q43 q482 ⟨by decide, by decide, rfl⟩ ⟨by decide, by decide⟩ rfl (Nat.le_of_ble_eq_true rfl) ⟨by decide, by decide⟩ rfl (by decide) (by decide) [0, 1, 2] (by decide) rfl (fun E hE => hE) ?_ (fun u hu => hu.2)
  rintro _ ⟨hk1, rfl⟩ -
  obtain ⟨i, hi, rfl⟩ := ixB_of hk1
  refine V_aload_n hC dX8_drill_8 0 rfl ?_
  refine V_get hC dX8_drill_9 inAX8 (mem_at 0 0 rfl rfl) rfl 0 (by decide) q310 rfl (v := .ref (X 1)) rfl ?_
  refine V_iload_n hC dX8_drill_12 1 rfl ?_
  refine V_aald hC dX8_drill_13 3 rfl (mem_at 1 0 rfl rfl) (vp_in_nI (by omega) (by omega)) (x := i) (nI_clamp (by omega)) (b := (B i) 0) (refA_at (by omega)) ?_
  refine V_get hC dX8_drill_14 inAX0 (mem_fam 2 0 rfl i (by first | assumption | omega) rfl) rfl 1 (by decide) q250 rfl (v := .int ((bz i).2.1)) rfl ?_
  refine V_if_ne hC dX8_drill_17 (tgt := 24) (by decide) (fun h2 => ?_) (fun h2 => ?_)
  · refine V_iconst hC dX8_drill_24 (v := 0) (by decide) ?_
    refine V_istore_n hC dX8_drill_25 (L' := [(2, .int 0), (0, .ref (X 0)), (1, .int (nI i))]) (by decide) rfl ?_
    refine V_aload_n hC dX8_drill_26 1 rfl ?_
    refine V_get hC dX8_drill_27 inAX8 (mem_at 0 0 rfl rfl) rfl 0 (by decide) q310 rfl (v := .ref (X 1)) rfl ?_
    refine V_iload_n hC dX8_drill_30 2 rfl ?_
    refine V_aald hC dX8_drill_31 3 rfl (mem_at 1 0 rfl rfl) (vp_in_nI (by omega) (by omega)) (x := i) (nI_clamp (by omega)) (b := (B i) 0) (refA_at (by omega)) ?_
    refine V_iconst hC dX8_drill_32 (v := 1) (by decide) ?_
    refine V_sub [2, 0, 1] (by decide) (u := [famW 6 (fun ι => bkP G (B ι) (bz ι)), [(X 0, .inr (9, [.ref (X 1), .int (nI nb), .ref (X 2), .ref (X 6), .ref (X 8), .ref (X 10), .ref (X 14), .ref (X 18), .int (nI nl), .int du, .ref (X 19), .int mo, .ref (X 20), .int cl]))], [(X 1, .inl (G.2.1 3, 6, .inr (.inr (.inr (.inr (refA 6 B))))))]]) rfl ?_
    refine V_open (i := i) (by omega) ?_
    refine V_put hC dX8_drill_33 inAX0 tyX0 tyX0_ok nmX0 0 0 rfl rfl rfl 1 (by decide) q250 rfl rfl (rfl) (rfl) (Nat.le_of_ble_eq_true rfl) (ps' := [bkP G (B i) ((bz i).1, 1, (bz i).2.2), famX 6 i (fun ι => bkP G (B ι) (bz ι)), [(X 0, .inr (9, [.ref (X 1), .int (nI nb), .ref (X 2), .ref (X 6), .ref (X 8), .ref (X 10), .ref (X 14), .ref (X 18), .int (nI nl), .int du, .ref (X 19), .int mo, .ref (X 20), .int cl]))], [(X 1, .inl (G.2.1 3, 6, .inr (.inr (.inr (.inr (refA 6 B))))))]]) rfl ?_
    refine V_close (i := i) (g' := fun ι => bkP G (B ι) ((va_up bz i ((bz i).1, 1, (bz i).2.2)) ι)) (by omega) (by simp [va_up]) (fun j _ hne => by simp [va_up, hne]) ?_
    refine V_iload_n hC dX8_drill_36 0 rfl ?_
    exact V_xzret hC hQ hr (by decide) [1, 2, 0] (u := [[(X 0, .inr (9, [.ref (X 1), .int (nI nb), .ref (X 2), .ref (X 6), .ref (X 8), .ref (X 10), .ref (X 14), .ref (X 18), .int (nI nl), .int du, .ref (X 19), .int mo, .ref (X 20), .int cl]))], [(X 1, .inl (G.2.1 3, 6, .inr (.inr (.inr (.inr (refA 6 B))))))], famW 6 (fun ι => bkP G (B ι) ((va_up bz i ((bz i).1, 1, (bz i).2.2)) ι))]) (by decide) rfl (by decide) (by decide) dX8_drill_37 (⟨i, hi, rfl, by rw [if_neg h2], rfl⟩)
  · refine V_iconst hC dX8_drill_20 (v := 1) (by decide) ?_
    refine V_goto hC dX8_drill_21 (tgt := 25) (by decide) ?_
    refine V_istore_n hC dX8_drill_25 (L' := [(2, .int 1), (0, .ref (X 0)), (1, .int (nI i))]) (by decide) rfl ?_
    refine V_aload_n hC dX8_drill_26 1 rfl ?_
    refine V_get hC dX8_drill_27 inAX8 (mem_at 0 0 rfl rfl) rfl 0 (by decide) q310 rfl (v := .ref (X 1)) rfl ?_
    refine V_iload_n hC dX8_drill_30 2 rfl ?_
    refine V_aald hC dX8_drill_31 3 rfl (mem_at 1 0 rfl rfl) (vp_in_nI (by omega) (by omega)) (x := i) (nI_clamp (by omega)) (b := (B i) 0) (refA_at (by omega)) ?_
    refine V_iconst hC dX8_drill_32 (v := 1) (by decide) ?_
    refine V_sub [2, 0, 1] (by decide) (u := [famW 6 (fun ι => bkP G (B ι) (bz ι)), [(X 0, .inr (9, [.ref (X 1), .int (nI nb), .ref (X 2), .ref (X 6), .ref (X 8), .ref (X 10), .ref (X 14), .ref (X 18), .int (nI nl), .int du, .ref (X 19), .int mo, .ref (X 20), .int cl]))], [(X 1, .inl (G.2.1 3, 6, .inr (.inr (.inr (.inr (refA 6 B))))))]]) rfl ?_
    refine V_open (i := i) (by omega) ?_
    refine V_put hC dX8_drill_33 inAX0 tyX0 tyX0_ok nmX0 0 0 rfl rfl rfl 1 (by decide) q250 rfl rfl (rfl) (rfl) (Nat.le_of_ble_eq_true rfl) (ps' := [bkP G (B i) ((bz i).1, 1, (bz i).2.2), famX 6 i (fun ι => bkP G (B ι) (bz ι)), [(X 0, .inr (9, [.ref (X 1), .int (nI nb), .ref (X 2), .ref (X 6), .ref (X 8), .ref (X 10), .ref (X 14), .ref (X 18), .int (nI nl), .int du, .ref (X 19), .int mo, .ref (X 20), .int cl]))], [(X 1, .inl (G.2.1 3, 6, .inr (.inr (.inr (.inr (refA 6 B))))))]]) rfl ?_
    refine V_close (i := i) (g' := fun ι => bkP G (B ι) ((va_up bz i ((bz i).1, 1, (bz i).2.2)) ι)) (by omega) (by simp [va_up]) (fun j _ hne => by simp [va_up, hne]) ?_
    refine V_iload_n hC dX8_drill_36 0 rfl ?_
    exact V_xzret hC hQ hr (by decide) [1, 2, 0] (u := [[(X 0, .inr (9, [.ref (X 1), .int (nI nb), .ref (X 2), .ref (X 6), .ref (X 8), .ref (X 10), .ref (X 14), .ref (X 18), .int (nI nl), .int du, .ref (X 19), .int mo, .ref (X 20), .int cl]))], [(X 1, .inl (G.2.1 3, 6, .inr (.inr (.inr (.inr (refA 6 B))))))], famW 6 (fun ι => bkP G (B ι) ((va_up bz i ((bz i).1, 1, (bz i).2.2)) ι))]) (by decide) rfl (by decide) (by decide) dX8_drill_37 (⟨i, hi, rfl, by rw [if_pos h2], rfl⟩)
set_option maxHeartbeats 4000000 in
set_option maxRecDepth 100000 in
/-- ClinkerWorks.hammer -/
theorem c_X8_hammer (l : Launch) (G : VG) (X : Nat → Nat) (nb nl : Nat) (du mo cl : Int32) (O : Nat → Nat) (S : KS) : Mi l G yX8_hammer cX8_hammer 2 .int 0 0 0 0 [.ref (X 0)] [[(X 0, .inr (9, [.ref (X 1), .int (nI nb), .ref (X 2), .ref (X 6), .ref (X 8), .ref (X 10), .ref (X 14), .ref (X 18), .int (nI nl), .int du, .ref (X 19), .int mo, .ref (X 20), .int cl]))], [(X 10, .inr (3, [.ref (X 11), .ref (X 12), .ref (X 13), .int (nI S.2.1), .ref (O 0), .int (S.1 0), .int (S.1 1), .int (S.1 2), .int (S.1 3), .int (S.1 4), .int (S.1 5), .int (S.1 6)]))]] (fun r u => r = S.1 2 ∧ u = [[(X 0, .inr (9, [.ref (X 1), .int (nI nb), .ref (X 2), .ref (X 6), .ref (X 8), .ref (X 10), .ref (X 14), .ref (X 18), .int (nI nl), .int du, .ref (X 19), .int mo, .ref (X 20), .int cl]))], [(X 10, .inr (3, [.ref (X 11), .ref (X 12), .ref (X 13), .int (nI S.2.1), .ref (O 0), .int (S.1 0), .int (S.1 1), .int 0, .int (S.1 3), .int (S.1 4), .int (S.1 5), .int (S.1 6)]))]]) := by
  refine Mi_of (by decide) (Nat.le_of_ble_eq_true rfl) (fun pP eE sS mM aA bB tT cC AA QQ hC hr hnm hQ => ?_)
  refine V_aload_n hC dX8_hammer_0 0 rfl ?_
  refine V_get hC dX8_hammer_1 inAX8 (mem_at 0 0 rfl rfl) rfl 5 (by decide) q315 rfl (v := .ref (X 10)) rfl ?_
  refine V_get hC dX8_hammer_4 inAX2 (mem_at 1 0 rfl rfl) rfl 7 (by decide) q186 rfl (v := .int (S.1 2)) rfl ?_
  refine V_istore_n hC dX8_hammer_7 (L' := [(1, .int (S.1 2)), (0, .ref (X 0))]) (by decide) rfl ?_
  refine V_aload_n hC dX8_hammer_8 1 rfl ?_
  refine V_get hC dX8_hammer_9 inAX8 (mem_at 0 0 rfl rfl) rfl 5 (by decide) q315 rfl (v := .ref (X 10)) rfl ?_
  refine V_iconst hC dX8_hammer_12 (v := 0) (by decide) ?_
  refine V_put hC dX8_hammer_13 inAX2 tyX2 tyX2_ok nmX2 1 0 rfl rfl rfl 7 (by decide) q186 rfl rfl (rfl) (rfl) (Nat.le_of_ble_eq_true rfl) (ps' := [[(X 0, .inr (9, [.ref (X 1), .int (nI nb), .ref (X 2), .ref (X 6), .ref (X 8), .ref (X 10), .ref (X 14), .ref (X 18), .int (nI nl), .int du, .ref (X 19), .int mo, .ref (X 20), .int cl]))], [(X 10, .inr (3, [.ref (X 11), .ref (X 12), .ref (X 13), .int (nI S.2.1), .ref (O 0), .int (S.1 0), .int (S.1 1), .int 0, .int (S.1 3), .int (S.1 4), .int (S.1 5), .int (S.1 6)]))]]) rfl ?_
  refine V_iload_n hC dX8_hammer_16 0 rfl ?_
  exact V_iret hC hQ hr [0, 1] (u := [[(X 0, .inr (9, [.ref (X 1), .int (nI nb), .ref (X 2), .ref (X 6), .ref (X 8), .ref (X 10), .ref (X 14), .ref (X 18), .int (nI nl), .int du, .ref (X 19), .int mo, .ref (X 20), .int cl]))], [(X 10, .inr (3, [.ref (X 11), .ref (X 12), .ref (X 13), .int (nI S.2.1), .ref (O 0), .int (S.1 0), .int (S.1 1), .int 0, .int (S.1 3), .int (S.1 4), .int (S.1 5), .int (S.1 6)]))]]) (by decide) rfl (by decide) (by decide) dX8_hammer_17 (⟨rfl, rfl⟩)
set_option maxHeartbeats 4000000 in
set_option maxRecDepth 100000 in
/-- ClinkerWorks.flame -/
theorem c_X8_flame (l : Launch) (hl0 : l.stackTraces = false) (G : VG) (X : Nat → Nat) (nb nl : Nat) (du mo cl : Int32) (O : Nat → Nat) (S : KS) (x : Int32) : Xi l G yX8_flame cX8_flame 3 .int 7 104 1 6 [.ref (X 0), .int x] [[(X 0, .inr (9, [.ref (X 1), .int (nI nb), .ref (X 2), .ref (X 6), .ref (X 8), .ref (X 10), .ref (X 14), .ref (X 18), .int (nI nl), .int du, .ref (X 19), .int mo, .ref (X 20), .int cl]))], [(X 10, .inr (3, [.ref (X 11), .ref (X 12), .ref (X 13), .int (nI S.2.1), .ref (O 0), .int (S.1 0), .int (S.1 1), .int (S.1 2), .int (S.1 3), .int (S.1 4), .int (S.1 5), .int (S.1 6)]))]] (fun r u => inR 0 9 x ∧ r = S.1 0 ∧ u = [[(X 0, .inr (9, [.ref (X 1), .int (nI nb), .ref (X 2), .ref (X 6), .ref (X 8), .ref (X 10), .ref (X 14), .ref (X 18), .int (nI nl), .int du, .ref (X 19), .int mo, .ref (X 20), .int cl]))], [(X 10, .inr (3, [.ref (X 11), .ref (X 12), .ref (X 13), .int (nI S.2.1), .ref (O 0), .int x, .int (S.1 1), .int (S.1 2), .int (S.1 3), .int (S.1 4), .int (S.1 5), .int (S.1 6)]))]]) (fun E => eIA E ∧ ¬ inR 0 9 x) := by
  refine Xi_of (by decide) (Nat.le_of_ble_eq_true rfl) (fun pP eE sS mM aA bB tT cC AA QQ hC hr hT hQ => ?_)
  refine V_iload_n hC dX8_flame_0 1 rfl ?_
  refine V_iconst hC dX8_flame_1 (v := 0) (by decide) ?_
  refine V_bipush hC dX8_flame_2 (v := 9) (by decide) ?_
  refine V_xcallS hC hT hQ [.int x, .int 0, .int 9] (c_X8_needArgument l hl0 G x 0 9) dX8_flame_4 q390 q391 q43 q392 ⟨by decide, by decide, rfl⟩ ⟨by decide, by decide⟩ rfl (Nat.le_of_ble_eq_true rfl) ⟨by decide, by decide⟩ rfl (by decide) (by decide) [0, 1] (by decide) rfl (fun E hE => hE) ?_ (fun u hu => hu.2)
  rintro _ ⟨hk1, rfl⟩ -
  refine V_aload_n hC dX8_flame_7 0 rfl ?_
  refine V_get hC dX8_flame_8 inAX8 (mem_at 0 0 rfl rfl) rfl 5 (by decide) q315 rfl (v := .ref (X 10)) rfl ?_
  refine V_get hC dX8_flame_11 inAX2 (mem_at 1 0 rfl rfl) rfl 5 (by decide) q182 rfl (v := .int (S.1 0)) rfl ?_
  refine V_istore_n hC dX8_flame_14 (L' := [(2, .int (S.1 0)), (0, .ref (X 0)), (1, .int x)]) (by decide) rfl ?_
  refine V_aload_n hC dX8_flame_15 1 rfl ?_
  refine V_get hC dX8_flame_16 inAX8 (mem_at 0 0 rfl rfl) rfl 5 (by decide) q315 rfl (v := .ref (X 10)) rfl ?_
  refine V_iload_n hC dX8_flame_19 2 rfl ?_
  refine V_put hC dX8_flame_20 inAX2 tyX2 tyX2_ok nmX2 1 0 rfl rfl rfl 5 (by decide) q182 rfl rfl (rfl) (rfl) (Nat.le_of_ble_eq_true rfl) (ps' := [[(X 0, .inr (9, [.ref (X 1), .int (nI nb), .ref (X 2), .ref (X 6), .ref (X 8), .ref (X 10), .ref (X 14), .ref (X 18), .int (nI nl), .int du, .ref (X 19), .int mo, .ref (X 20), .int cl]))], [(X 10, .inr (3, [.ref (X 11), .ref (X 12), .ref (X 13), .int (nI S.2.1), .ref (O 0), .int x, .int (S.1 1), .int (S.1 2), .int (S.1 3), .int (S.1 4), .int (S.1 5), .int (S.1 6)]))]]) rfl ?_
  refine V_iload_n hC dX8_flame_23 0 rfl ?_
  exact V_xiret hC hQ hr [0, 1] (u := [[(X 0, .inr (9, [.ref (X 1), .int (nI nb), .ref (X 2), .ref (X 6), .ref (X 8), .ref (X 10), .ref (X 14), .ref (X 18), .int (nI nl), .int du, .ref (X 19), .int mo, .ref (X 20), .int cl]))], [(X 10, .inr (3, [.ref (X 11), .ref (X 12), .ref (X 13), .int (nI S.2.1), .ref (O 0), .int x, .int (S.1 1), .int (S.1 2), .int (S.1 3), .int (S.1 4), .int (S.1 5), .int (S.1 6)]))]]) (by decide) rfl (by decide) (by decide) dX8_flame_24 (⟨hk1, rfl, rfl⟩)
set_option maxHeartbeats 4000000 in
set_option maxRecDepth 100000 in
/-- ClinkerWorks.coal -/
theorem c_X8_coal (l : Launch) (hl0 : l.stackTraces = false) (G : VG) (X : Nat → Nat) (nb nl : Nat) (du mo cl : Int32) (O : Nat → Nat) (S : KS) (x : Int32) : Xi l G yX8_coal cX8_coal 2 .int 7 104 1 6 [.ref (X 0), .int x] [[(X 0, .inr (9, [.ref (X 1), .int (nI nb), .ref (X 2), .ref (X 6), .ref (X 8), .ref (X 10), .ref (X 14), .ref (X 18), .int (nI nl), .int du, .ref (X 19), .int mo, .ref (X 20), .int cl]))], [(X 10, .inr (3, [.ref (X 11), .ref (X 12), .ref (X 13), .int (nI S.2.1), .ref (O 0), .int (S.1 0), .int (S.1 1), .int (S.1 2), .int (S.1 3), .int (S.1 4), .int (S.1 5), .int (S.1 6)]))]] (fun r u => inR 1 (999 - S.1 1) x ∧ r = S.1 1 + x ∧ u = [[(X 0, .inr (9, [.ref (X 1), .int (nI nb), .ref (X 2), .ref (X 6), .ref (X 8), .ref (X 10), .ref (X 14), .ref (X 18), .int (nI nl), .int du, .ref (X 19), .int mo, .ref (X 20), .int cl]))], [(X 10, .inr (3, [.ref (X 11), .ref (X 12), .ref (X 13), .int (nI S.2.1), .ref (O 0), .int (S.1 0), .int (S.1 1 + x), .int (S.1 2), .int (S.1 3), .int (S.1 4), .int (S.1 5), .int (S.1 6)]))]]) (fun E => eIA E ∧ ¬ inR 1 (999 - S.1 1) x) := by
  refine Xi_of (by decide) (Nat.le_of_ble_eq_true rfl) (fun pP eE sS mM aA bB tT cC AA QQ hC hr hT hQ => ?_)
  refine V_iload_n hC dX8_coal_0 1 rfl ?_
  refine V_iconst hC dX8_coal_1 (v := 1) (by decide) ?_
  refine V_sipush hC dX8_coal_2 (v := 999) (by decide) ?_
  refine V_aload_n hC dX8_coal_5 0 rfl ?_
  refine V_get hC dX8_coal_6 inAX8 (mem_at 0 0 rfl rfl) rfl 5 (by decide) q315 rfl (v := .ref (X 10)) rfl ?_
  refine V_get hC dX8_coal_9 inAX2 (mem_at 1 0 rfl rfl) rfl 6 (by decide) q184 rfl (v := .int (S.1 1)) rfl ?_
  refine V_isub hC dX8_coal_12 ?_
  refine V_xcallS hC hT hQ [.int x, .int 1, .int (999 - (S.1 1))] (c_X8_needArgument l hl0 G x 1 (999 - (S.1 1))) dX8_coal_13 q390 q391 q43 q392 ⟨by decide, by decide, rfl⟩ ⟨by decide, by decide⟩ rfl (Nat.le_of_ble_eq_true rfl) ⟨by decide, by decide⟩ rfl (by decide) (by decide) [0, 1] (by decide) rfl (fun E hE => hE) ?_ (fun u hu => hu.2)
  rintro _ ⟨hk1, rfl⟩ -
  refine V_aload_n hC dX8_coal_16 0 rfl ?_
  refine V_get hC dX8_coal_17 inAX8 (mem_at 0 0 rfl rfl) rfl 5 (by decide) q315 rfl (v := .ref (X 10)) rfl ?_
  refine V_dup hC dX8_coal_20 rfl ?_
  refine V_get hC dX8_coal_21 inAX2 (mem_at 1 0 rfl rfl) rfl 6 (by decide) q184 rfl (v := .int (S.1 1)) rfl ?_
  refine V_iload_n hC dX8_coal_24 1 rfl ?_
  refine V_iadd hC dX8_coal_25 ?_
  refine V_put hC dX8_coal_26 inAX2 tyX2 tyX2_ok nmX2 1 0 rfl rfl rfl 6 (by decide) q184 rfl rfl (rfl) (rfl) (Nat.le_of_ble_eq_true rfl) (ps' := [[(X 0, .inr (9, [.ref (X 1), .int (nI nb), .ref (X 2), .ref (X 6), .ref (X 8), .ref (X 10), .ref (X 14), .ref (X 18), .int (nI nl), .int du, .ref (X 19), .int mo, .ref (X 20), .int cl]))], [(X 10, .inr (3, [.ref (X 11), .ref (X 12), .ref (X 13), .int (nI S.2.1), .ref (O 0), .int (S.1 0), .int ((S.1 1) + x), .int (S.1 2), .int (S.1 3), .int (S.1 4), .int (S.1 5), .int (S.1 6)]))]]) rfl ?_
  refine V_aload_n hC dX8_coal_29 0 rfl ?_
  refine V_get hC dX8_coal_30 inAX8 (mem_at 0 0 rfl rfl) rfl 5 (by decide) q315 rfl (v := .ref (X 10)) rfl ?_
  refine V_get hC dX8_coal_33 inAX2 (mem_at 1 0 rfl rfl) rfl 6 (by decide) q184 rfl (v := .int ((S.1 1) + x)) rfl ?_
  exact V_xiret hC hQ hr [0, 1] (u := [[(X 0, .inr (9, [.ref (X 1), .int (nI nb), .ref (X 2), .ref (X 6), .ref (X 8), .ref (X 10), .ref (X 14), .ref (X 18), .int (nI nl), .int du, .ref (X 19), .int mo, .ref (X 20), .int cl]))], [(X 10, .inr (3, [.ref (X 11), .ref (X 12), .ref (X 13), .int (nI S.2.1), .ref (O 0), .int (S.1 0), .int ((S.1 1) + x), .int (S.1 2), .int (S.1 3), .int (S.1 4), .int (S.1 5), .int (S.1 6)]))]]) (by decide) rfl (by decide) (by decide) dX8_coal_36 (⟨hk1, rfl, rfl⟩)
set_option maxHeartbeats 4000000 in
set_option maxRecDepth 100000 in
/-- ClinkerWorks.standard -/
theorem c_X8_standard (l : Launch) (hl0 : l.stackTraces = false) (G : VG) (X : Nat → Nat) (nb nl : Nat) (du mo cl : Int32) (wn : Nat) (ws : Int32) (wf : Nat → Int32) (x : Int32) : Xi l G yX8_standard cX8_standard 3 .int 7 104 1 6 [.ref (X 0), .int x] [[(X 0, .inr (9, [.ref (X 1), .int (nI nb), .ref (X 2), .ref (X 6), .ref (X 8), .ref (X 10), .ref (X 14), .ref (X 18), .int (nI nl), .int du, .ref (X 19), .int mo, .ref (X 20), .int cl]))], [(X 20, .inr (8, [.ref (X 21), .int (nI wn), .int ws]))], [(X 21, .inl (G.2.1 0, 6, .inl wf))]] (fun r u => inR 0 99 x ∧ r = ws ∧ u = [[(X 0, .inr (9, [.ref (X 1), .int (nI nb), .ref (X 2), .ref (X 6), .ref (X 8), .ref (X 10), .ref (X 14), .ref (X 18), .int (nI nl), .int du, .ref (X 19), .int mo, .ref (X 20), .int cl]))], [(X 20, .inr (8, [.ref (X 21), .int (nI wn), .int x]))], [(X 21, .inl (G.2.1 0, 6, .inl wf))]]) (fun E => eIA E ∧ ¬ inR 0 99 x) := by
  refine Xi_of (by decide) (Nat.le_of_ble_eq_true rfl) (fun pP eE sS mM aA bB tT cC AA QQ hC hr hT hQ => ?_)
  refine V_iload_n hC dX8_standard_0 1 rfl ?_
  refine V_iconst hC dX8_standard_1 (v := 0) (by decide) ?_
  refine V_bipush hC dX8_standard_2 (v := 99) (by decide) ?_
  refine V_xcallS hC hT hQ [.int x, .int 0, .int 99] (c_X8_needArgument l hl0 G x 0 99) dX8_standard_4 q390 q391 q43 q392 ⟨by decide, by decide, rfl⟩ ⟨by decide, by decide⟩ rfl (Nat.le_of_ble_eq_true rfl) ⟨by decide, by decide⟩ rfl (by decide) (by decide) [0, 1, 2] (by decide) rfl (fun E hE => hE) ?_ (fun u hu => hu.2)
  rintro _ ⟨hk1, rfl⟩ -
  refine V_aload_n hC dX8_standard_7 0 rfl ?_
  refine V_get hC dX8_standard_8 inAX8 (mem_at 0 0 rfl rfl) rfl 12 (by decide) q322 rfl (v := .ref (X 20)) rfl ?_
  refine V_get hC dX8_standard_11 inAX7 (mem_at 1 0 rfl rfl) rfl 2 (by decide) q234 rfl (v := .int ws) rfl ?_
  refine V_istore_n hC dX8_standard_14 (L' := [(2, .int ws), (0, .ref (X 0)), (1, .int x)]) (by decide) rfl ?_
  refine V_aload_n hC dX8_standard_15 1 rfl ?_
  refine V_get hC dX8_standard_16 inAX8 (mem_at 0 0 rfl rfl) rfl 12 (by decide) q322 rfl (v := .ref (X 20)) rfl ?_
  refine V_iload_n hC dX8_standard_19 2 rfl ?_
  refine V_put hC dX8_standard_20 inAX7 tyX7 tyX7_ok nmX7 1 0 rfl rfl rfl 2 (by decide) q234 rfl rfl (rfl) (rfl) (Nat.le_of_ble_eq_true rfl) (ps' := [[(X 0, .inr (9, [.ref (X 1), .int (nI nb), .ref (X 2), .ref (X 6), .ref (X 8), .ref (X 10), .ref (X 14), .ref (X 18), .int (nI nl), .int du, .ref (X 19), .int mo, .ref (X 20), .int cl]))], [(X 20, .inr (8, [.ref (X 21), .int (nI wn), .int x]))], [(X 21, .inl (G.2.1 0, 6, .inl wf))]]) rfl ?_
  refine V_iload_n hC dX8_standard_23 0 rfl ?_
  exact V_xiret hC hQ hr [0, 1, 2] (u := [[(X 0, .inr (9, [.ref (X 1), .int (nI nb), .ref (X 2), .ref (X 6), .ref (X 8), .ref (X 10), .ref (X 14), .ref (X 18), .int (nI nl), .int du, .ref (X 19), .int mo, .ref (X 20), .int cl]))], [(X 20, .inr (8, [.ref (X 21), .int (nI wn), .int x]))], [(X 21, .inl (G.2.1 0, 6, .inl wf))]]) (by decide) rfl (by decide) (by decide) dX8_standard_24 (⟨hk1, rfl, rfl⟩)
set_option maxHeartbeats 4000000 in
set_option maxRecDepth 100000 in
/-- ClinkerWorks.isConform -/
theorem c_X8_isConform (l : Launch) (G : VG) (X : Nat → Nat) (nb nl : Nat) (du mo cl : Int32) (wn : Nat) (ws : Int32) (wf : Nat → Int32) (hwn : wn ≤ 6) : Mi l G yX8_isConform cX8_isConform 1 .boolean 2 43 0 0 [.ref (X 0)] [[(X 0, .inr (9, [.ref (X 1), .int (nI nb), .ref (X 2), .ref (X 6), .ref (X 8), .ref (X 10), .ref (X 14), .ref (X 18), .int (nI nl), .int du, .ref (X 19), .int mo, .ref (X 20), .int cl]))], [(X 20, .inr (8, [.ref (X 21), .int (nI wn), .int ws]))], [(X 21, .inl (G.2.1 0, 6, .inl wf))]] (fun r u => r = wiHolds wf wn ws ∧ u = [[(X 0, .inr (9, [.ref (X 1), .int (nI nb), .ref (X 2), .ref (X 6), .ref (X 8), .ref (X 10), .ref (X 14), .ref (X 18), .int (nI nl), .int du, .ref (X 19), .int mo, .ref (X 20), .int cl]))], [(X 20, .inr (8, [.ref (X 21), .int (nI wn), .int ws]))], [(X 21, .inl (G.2.1 0, 6, .inl wf))]]) := by
  refine Mi_of (by decide) (Nat.le_of_ble_eq_true rfl) (fun pP eE sS mM aA bB tT cC AA QQ hC hr hnm hQ => ?_)
  refine V_aload_n hC dX8_isConform_0 0 rfl ?_
  refine V_get hC dX8_isConform_1 inAX8 (mem_at 0 0 rfl rfl) rfl 12 (by decide) q322 rfl (v := .ref (X 20)) rfl ?_
  refine V_calli hC (V_runV hC (rest := []) [] (c_X7_holds l G (X 20) (X 21) wn ws wf hwn) [1, 2] rfl (by decide) q373 q374 q375 q48 q376 ⟨by decide, by decide, rfl⟩ ⟨by decide, by decide⟩ (ci := 8) rfl (mem_at 1 0 rfl rfl) rfl (Nat.le_of_ble_eq_true rfl) ⟨by decide, by decide⟩ dX8_isConform_4) (is := [1, 2]) rfl [0] (rs := [[(X 0, .inr (9, [.ref (X 1), .int (nI nb), .ref (X 2), .ref (X 6), .ref (X 8), .ref (X 10), .ref (X 14), .ref (X 18), .int (nI nl), .int du, .ref (X 19), .int mo, .ref (X 20), .int cl]))]]) rfl (by decide) (by decide) ?_
  rintro _ _ ⟨rfl, rfl⟩
  exact V_zret hC hQ hr (by unfold wiHolds; split; exact Or.inl rfl; split; exact Or.inl rfl; exact Or.inr rfl) [2, 0, 1] (u := [[(X 0, .inr (9, [.ref (X 1), .int (nI nb), .ref (X 2), .ref (X 6), .ref (X 8), .ref (X 10), .ref (X 14), .ref (X 18), .int (nI nl), .int du, .ref (X 19), .int mo, .ref (X 20), .int cl]))], [(X 20, .inr (8, [.ref (X 21), .int (nI wn), .int ws]))], [(X 21, .inl (G.2.1 0, 6, .inl wf))]]) (by decide) rfl (by decide) (by decide) dX8_isConform_7 (⟨rfl, rfl⟩)
set_option maxHeartbeats 4000000 in
set_option maxRecDepth 100000 in
/-- ClinkerWorks.open -/
theorem c_X8_open (l : Launch) (hl0 : l.stackTraces = false) (G : VG) (X : Nat → Nat) (nb nl : Nat) (du mo cl : Int32) (Z : Nat → Nat → Nat) (sz : Nat → SV) (b : Int32) (hsh : ∀ j, j < 2 → (sz j).2.1 = 0 ∨ (sz j).2.1 = 1) : Xi l G yX8_open cX8_open 3 .boolean 7 103 1 6 [.ref (X 0), .int b] [[(X 0, .inr (9, [.ref (X 1), .int (nI nb), .ref (X 2), .ref (X 6), .ref (X 8), .ref (X 10), .ref (X 14), .ref (X 18), .int (nI nl), .int du, .ref (X 19), .int mo, .ref (X 20), .int cl]))], [(X 19, .inl (G.2.1 6, 2, .inr (.inr (.inr (.inr (refA 2 Z))))))], famW 2 (fun ι => slP G (Z ι) (sz ι))] (fun r u => ∃ i : Nat, i < 2 ∧ b = nI i ∧ r = (sz i).2.1 ∧ u = [[(X 0, .inr (9, [.ref (X 1), .int (nI nb), .ref (X 2), .ref (X 6), .ref (X 8), .ref (X 10), .ref (X 14), .ref (X 18), .int (nI nl), .int du, .ref (X 19), .int mo, .ref (X 20), .int cl]))], [(X 19, .inl (G.2.1 6, 2, .inr (.inr (.inr (.inr (refA 2 Z))))))], famW 2 (fun ι => slP G (Z ι) ((va_up sz i ((sz i).1, 0, (sz i).2.2)) ι))]) (fun E => eIX E ∧ ixB b 2 = 0) := by
  refine Xi_of (by decide) (Nat.le_of_ble_eq_true rfl) (fun pP eE sS mM aA bB tT cC AA QQ hC hr hT hQ => ?_)
  refine V_iload_n hC dX8_open_0 1 rfl ?_
  refine V_iconst hC dX8_open_1 (v := 2) (by decide) ?_
  refine V_xcallS hC hT hQ [.int b, .int 2] (c_X8_needIndex l hl0 G b 2) dX8_open_2 q480 q481 q43 q482 ⟨by decide, by decide, rfl⟩ ⟨by decide, by decide⟩ rfl (Nat.le_of_ble_eq_true rfl) ⟨by decide, by decide⟩ rfl (by decide) (by decide) [0, 1, 2] (by decide) rfl (fun E hE => hE) ?_ (fun u hu => hu.2)
  rintro _ ⟨hk1, rfl⟩ -
  obtain ⟨i, hi, rfl⟩ := ixB_of (n := 2) hk1
  refine V_aload_n hC dX8_open_5 0 rfl ?_
  refine V_get hC dX8_open_6 inAX8 (mem_at 0 0 rfl rfl) rfl 10 (by decide) q320 rfl (v := .ref (X 19)) rfl ?_
  refine V_iload_n hC dX8_open_9 1 rfl ?_
  refine V_aald hC dX8_open_10 6 rfl (mem_at 1 0 rfl rfl) (vp_in_nI (by omega) (by omega)) (x := i) (nI_clamp (by omega)) (b := (Z i) 0) (refA_at (by omega)) ?_
  refine V_get hC dX8_open_11 inAX6 (mem_fam 2 0 rfl i (by first | assumption | omega) rfl) rfl 2 (by decide) q302 rfl (v := .int ((sz i).2.1)) rfl ?_
  refine V_istore_n hC dX8_open_14 (L' := [(2, .int ((sz i).2.1)), (0, .ref (X 0)), (1, .int (nI i))]) (by decide) rfl ?_
  refine V_aload_n hC dX8_open_15 1 rfl ?_
  refine V_get hC dX8_open_16 inAX8 (mem_at 0 0 rfl rfl) rfl 10 (by decide) q320 rfl (v := .ref (X 19)) rfl ?_
  refine V_iload_n hC dX8_open_19 2 rfl ?_
  refine V_aald hC dX8_open_20 6 rfl (mem_at 1 0 rfl rfl) (vp_in_nI (by omega) (by omega)) (x := i) (nI_clamp (by omega)) (b := (Z i) 0) (refA_at (by omega)) ?_
  refine V_iconst hC dX8_open_21 (v := 0) (by decide) ?_
  refine V_sub [2, 0, 1] (by decide) (u := [famW 2 (fun ι => slP G (Z ι) (sz ι)), [(X 0, .inr (9, [.ref (X 1), .int (nI nb), .ref (X 2), .ref (X 6), .ref (X 8), .ref (X 10), .ref (X 14), .ref (X 18), .int (nI nl), .int du, .ref (X 19), .int mo, .ref (X 20), .int cl]))], [(X 19, .inl (G.2.1 6, 2, .inr (.inr (.inr (.inr (refA 2 Z))))))]]) rfl ?_
  refine V_open (i := i) (by omega) ?_
  refine V_put hC dX8_open_22 inAX6 tyX6 tyX6_ok nmX6 0 0 rfl rfl rfl 2 (by decide) q302 rfl rfl (rfl) (rfl) (Nat.le_of_ble_eq_true rfl) (ps' := [slP G (Z i) ((sz i).1, 0, (sz i).2.2), famX 2 i (fun ι => slP G (Z ι) (sz ι)), [(X 0, .inr (9, [.ref (X 1), .int (nI nb), .ref (X 2), .ref (X 6), .ref (X 8), .ref (X 10), .ref (X 14), .ref (X 18), .int (nI nl), .int du, .ref (X 19), .int mo, .ref (X 20), .int cl]))], [(X 19, .inl (G.2.1 6, 2, .inr (.inr (.inr (.inr (refA 2 Z))))))]]) rfl ?_
  refine V_iload_n hC dX8_open_25 0 rfl ?_
  refine V_close (i := i) (g' := fun ι => slP G (Z ι) ((va_up sz i ((sz i).1, 0, (sz i).2.2)) ι)) (by omega) (by simp [va_up]) (fun j _ hne => by simp [va_up, hne]) ?_
  exact V_xzret hC hQ hr (hsh i hi) [1, 2, 0] (u := [[(X 0, .inr (9, [.ref (X 1), .int (nI nb), .ref (X 2), .ref (X 6), .ref (X 8), .ref (X 10), .ref (X 14), .ref (X 18), .int (nI nl), .int du, .ref (X 19), .int mo, .ref (X 20), .int cl]))], [(X 19, .inl (G.2.1 6, 2, .inr (.inr (.inr (.inr (refA 2 Z))))))], famW 2 (fun ι => slP G (Z ι) ((va_up sz i ((sz i).1, 0, (sz i).2.2)) ι))]) (by decide) rfl (by decide) (by decide) dX8_open_26 (⟨i, hi, rfl, rfl, rfl⟩)
