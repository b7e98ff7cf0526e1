/-! ===== block, blast, charge ===== -/
abbrev bkOk (s0 v0 v1 v2 v3 : Int32) : Prop := inR 0 200 s0 ∧ inR 0 9 v0 ∧ inR 0 9 v1 ∧ inR 0 9 v2 ∧ inR 0 9 v3
abbrev chOk (c a b d : Int32) : Prop := inR 1 9 c ∧ inR 0 3 a ∧ inR 0 3 b ∧ inR 0 3 d
theorem inR_of1 {x : Int32} {K M : Nat} (h : inR (nI K) (nI M) x) (hK : K < 2 ^ 31 := by omega) (hM : M < 2 ^ 31 := by omega) : ∃ w : Nat, K ≤ w ∧ w ≤ M ∧ x = nI w := by
  have h0 : ¬ x < 0 := by
    intro h1
    have h2 := h.1
    rw [Int32.le_iff_toInt_le, nI_toInt (by omega)] at h2
    rw [Int32.lt_iff_toInt_lt] at h1
    have : (0 : Int32).toInt = 0 := rfl
    omega
  obtain ⟨j, hj, rfl⟩ := nI_of h0
  exact ⟨j, nle h.1, nle h.2, rfl⟩
theorem ful_0 {n N : Nat} (h : (if nI n < nI N then (0 : Int32) else 1) = 0) (hn : n < 2 ^ 31 := by omega) (hN : N < 2 ^ 31 := by omega) : n < N := by
  rcases Nat.lt_or_ge n N with q | q
  · exact q
  · rw [if_neg (nI_nlt q (by omega))] at h
    exact absurd h (by decide)
theorem ful_1 {n N : Nat} (h : ¬ (if nI n < nI N then (0 : Int32) else 1) = 0) (hN : N < 2 ^ 31 := by omega) : N ≤ n := by
  rcases Nat.lt_or_ge n N with q | q
  · exact absurd (if_pos (nI_lt q (by omega))) h
  · exact q
set_option maxHeartbeats 4000000 in
set_option maxRecDepth 100000 in
/-- ClinkerWorks.block -/
theorem c_X8_block (l : Launch) (hl0 : l.stackTraces = false) (G : VG) (X : Nat → Nat) (nb nl : Nat) (du mo cl : Int32) (B : Nat → Nat → Nat) (bz : Nat → BV) (s0 v0 v1 v2 v3 : Int32) (hnb : nb ≤ 6) : Xi l G yX8_block cX8_block 6 .int 7 104 6 36 [.ref (X 0), .int s0, .int v0, .int v1, .int v2, .int v3] [[(X 0, .inr (9, [.ref (X 1), .int (nI nb), .ref (X 2), .ref (X 6), .ref (X 8), .ref (X 10), .ref (X 14), .ref (X 18), .int (nI nl), .int du, .ref (X 19), .int mo, .ref (X 20), .int cl]))], [(X 1, .inl (G.2.1 3, 6, .inr (.inr (.inr (.inr (refA 6 B))))))], famW 6 (fun ι => bkP G (B ι) (bz ι))] (fun r u => bkOk s0 v0 v1 v2 v3 ∧ nb < 6 ∧ r = nI nb ∧ u = [[(X 0, .inr (9, [.ref (X 1), .int (nI (nb + 1)), .ref (X 2), .ref (X 6), .ref (X 8), .ref (X 10), .ref (X 14), .ref (X 18), .int (nI nl), .int du, .ref (X 19), .int mo, .ref (X 20), .int cl]))], [(X 1, .inl (G.2.1 3, 6, .inr (.inr (.inr (.inr (refA 6 B))))))], famW 6 (fun ι => bkP G (B ι) ((va_up bz nb (s0, (bz nb).2.1, tl5 (bz nb).2.2 v0 v1 v2 v3)) ι))]) (fun E => (eIA E ∧ ¬ bkOk s0 v0 v1 v2 v3) ∨ (eIS E ∧ bkOk s0 v0 v1 v2 v3 ∧ nb = 6)) := by
  refine Xi_of (by decide) (Nat.le_of_ble_eq_true rfl) (fun pP eE sS mM aA bB tT cC AA QQ hC hr hT hQ => ?_)
  refine V_iload_n hC dX8_block_0 1 rfl ?_
  refine V_iconst hC dX8_block_1 (v := 0) (by decide) ?_
  refine V_sipush hC dX8_block_2 (v := 200) (by decide) ?_
  refine V_xcallS hC hT hQ [.int s0, .int 0, .int 200] (c_X8_needArgument l hl0 G s0 0 200) dX8_block_5 q319 q320 q20 q321 ⟨by decide, by decide, rfl⟩ ⟨by decide, by decide⟩ rfl (Nat.le_of_ble_eq_true rfl) ⟨by decide, by decide⟩ rfl (by decide) (by decide) [0, 1, 2] (by decide) rfl (fun E hE => Or.inl ⟨hE.1, fun hA => hE.2 hA.1⟩) ?_ (fun u hu => hu.2)
  rintro _ ⟨hk1, rfl⟩ -
  refine V_iload_n hC dX8_block_8 2 rfl ?_
  refine V_iconst hC dX8_block_9 (v := 0) (by decide) ?_
  refine V_bipush hC dX8_block_10 (v := 9) (by decide) ?_
  refine V_xcallS hC hT hQ [.int v0, .int 0, .int 9] (c_X8_needArgument l hl0 G v0 0 9) dX8_block_12 q319 q320 q20 q321 ⟨by decide, by decide, rfl⟩ ⟨by decide, by decide⟩ rfl (Nat.le_of_ble_eq_true rfl) ⟨by decide, by decide⟩ rfl (by decide) (by decide) [0, 1, 2] (by decide) rfl (fun E hE => Or.inl ⟨hE.1, fun hA => hE.2 hA.2.1⟩) ?_ (fun u hu => hu.2)
  rintro _ ⟨hk2, rfl⟩ -
  refine V_iload_n hC dX8_block_15 3 rfl ?_
  refine V_iconst hC dX8_block_16 (v := 0) (by decide) ?_
  refine V_bipush hC dX8_block_17 (v := 9) (by decide) ?_
  refine V_xcallS hC hT hQ [.int v1, .int 0, .int 9] (c_X8_needArgument l hl0 G v1 0 9) dX8_block_19 q319 q320 q20 q321 ⟨by decide, by decide, rfl⟩ ⟨by decide, by decide⟩ rfl (Nat.le_of_ble_eq_true rfl) ⟨by decide, by decide⟩ rfl (by decide) (by decide) [0, 1, 2] (by decide) rfl (fun E hE => Or.inl ⟨hE.1, fun hA => hE.2 hA.2.2.1⟩) ?_ (fun u hu => hu.2)
  rintro _ ⟨hk3, rfl⟩ -
  refine V_iload hC dX8_block_22 4 rfl ?_
  refine V_iconst hC dX8_block_24 (v := 0) (by decide) ?_
  refine V_bipush hC dX8_block_25 (v := 9) (by decide) ?_
  refine V_xcallS hC hT hQ [.int v2, .int 0, .int 9] (c_X8_needArgument l hl0 G v2 0 9) dX8_block_27 q319 q320 q20 q321 ⟨by decide, by decide, rfl⟩ ⟨by decide, by decide⟩ rfl (Nat.le_of_ble_eq_true rfl) ⟨by decide, by decide⟩ rfl (by decide) (by decide) [0, 1, 2] (by decide) rfl (fun E hE => Or.inl ⟨hE.1, fun hA => hE.2 hA.2.2.2.1⟩) ?_ (fun u hu => hu.2)
  rintro _ ⟨hk4, rfl⟩ -
  refine V_iload hC dX8_block_30 5 rfl ?_
  refine V_iconst hC dX8_block_32 (v := 0) (by decide) ?_
  refine V_bipush hC dX8_block_33 (v := 9) (by decide) ?_
  refine V_xcallS hC hT hQ [.int v3, .int 0, .int 9] (c_X8_needArgument l hl0 G v3 0 9) dX8_block_35 q319 q320 q20 q321 ⟨by decide, by decide, rfl⟩ ⟨by decide, by decide⟩ rfl (Nat.le_of_ble_eq_true rfl) ⟨by decide, by decide⟩ rfl (by decide) (by decide) [0, 1, 2] (by decide) rfl (fun E hE => Or.inl ⟨hE.1, fun hA => hE.2 hA.2.2.2.2⟩) ?_ (fun u hu => hu.2)
  rintro _ ⟨hk5, rfl⟩ -
  refine V_aload_n hC dX8_block_38 0 rfl ?_
  refine V_get hC dX8_block_39 inAX8 (mem_at 0 0 rfl rfl) rfl 1 (by decide) q273 rfl (v := .int (nI nb)) rfl ?_
  refine V_bipush hC dX8_block_42 (v := 6) (by decide) ?_
  refine V_icmp_lt hC dX8_block_44 (tgt := 57) (by decide) (fun h6 => ?_) (fun h6 => ?_)
  · have hlt : nb < 6 := nlt (b := 6) h6
    refine V_aload_n hC dX8_block_57 0 rfl ?_
    refine V_get hC dX8_block_58 inAX8 (mem_at 0 0 rfl rfl) rfl 0 (by decide) q272 rfl (v := .ref (X 1)) rfl ?_
    refine V_aload_n hC dX8_block_61 0 rfl ?_
    refine V_get hC dX8_block_62 inAX8 (mem_at 0 0 rfl rfl) rfl 1 (by decide) q273 rfl (v := .int (nI nb)) rfl ?_
    refine V_aald hC dX8_block_65 3 rfl (mem_at 1 0 rfl rfl) (vp_in_nI (by omega) (by omega)) (x := nb) (nI_clamp (by omega)) (b := (B nb) 0) (refA_at (by omega)) ?_
    refine V_iload_n hC dX8_block_66 1 rfl ?_
    refine V_iload_n hC dX8_block_67 2 rfl ?_
    refine V_iload_n hC dX8_block_68 3 rfl ?_
    refine V_iload hC dX8_block_69 4 rfl ?_
    refine V_iload hC dX8_block_71 5 rfl ?_
    refine V_sub [2, 0, 1] (by decide) (u := [famW 6 (fun ι => bkP G (B ι) (bz ι)), [(X 0, .inr (9, [.ref (X 1), .int (nI nb), .ref (X 2), .ref (X 6), .ref (X 8), .ref (X 10), .ref (X 14), .ref (X 18), .int (nI nl), .int du, .ref (X 19), .int mo, .ref (X 20), .int cl]))], [(X 1, .inl (G.2.1 3, 6, .inr (.inr (.inr (.inr (refA 6 B))))))]]) rfl ?_
    refine V_open (i := nb) (hlt) ?_
    refine V_callv hC (V_runV hC (rest := []) [.int s0, .int v0, .int v1, .int v2, .int v3] (k_X0_tell l G (B nb) (bz nb) s0 v0 v1 v2 v3) [0] rfl (by decide) q803 q804 q805 q26 q806 ⟨by decide, by decide, rfl⟩ ⟨by decide, by decide⟩ (ci := 1) rfl (mem_at 0 0 rfl rfl) rfl (Nat.le_of_ble_eq_true rfl) ⟨by decide, by decide⟩ dX8_block_73) (is := [0]) rfl [1, 2, 3] (rs := [famX 6 nb (fun ι => bkP G (B ι) (bz ι)), [(X 0, .inr (9, [.ref (X 1), .int (nI nb), .ref (X 2), .ref (X 6), .ref (X 8), .ref (X 10), .ref (X 14), .ref (X 18), .int (nI nl), .int du, .ref (X 19), .int mo, .ref (X 20), .int cl]))], [(X 1, .inl (G.2.1 3, 6, .inr (.inr (.inr (.inr (refA 6 B))))))]]) rfl (by decide) (by decide) ?_
    rintro _ rfl
    refine V_close (i := nb) (g' := fun ι => bkP G (B ι) ((va_up bz nb (s0, (bz nb).2.1, tl5 (bz nb).2.2 v0 v1 v2 v3)) ι)) (hlt) (by simp [va_up]) (fun j _ hne => by simp [va_up, hne]) ?_
    refine V_aload_n hC dX8_block_76 0 rfl ?_
    refine V_dup hC dX8_block_77 rfl ?_
    refine V_get hC dX8_block_78 inAX8 (mem_at 1 0 rfl rfl) rfl 1 (by decide) q273 rfl (v := .int (nI nb)) rfl ?_
    refine V_iconst hC dX8_block_81 (v := 1) (by decide) ?_
    refine V_iadd hC dX8_block_82 ?_
    refine V_eqi (y := nI (nb + 1)) (nI_1 nb) ?_
    refine V_put hC dX8_block_83 inAX8 tyX8 tyX8_ok nmX8 1 0 rfl rfl rfl 1 (by decide) q273 rfl rfl (rfl) (rfl) (Nat.le_of_ble_eq_true rfl) (ps' := [famW 6 (fun ι => bkP G (B ι) ((va_up bz nb (s0, (bz nb).2.1, tl5 (bz nb).2.2 v0 v1 v2 v3)) ι)), [(X 0, .inr (9, [.ref (X 1), .int (nI (nb + 1)), .ref (X 2), .ref (X 6), .ref (X 8), .ref (X 10), .ref (X 14), .ref (X 18), .int (nI nl), .int du, .ref (X 19), .int mo, .ref (X 20), .int cl]))], [(X 1, .inl (G.2.1 3, 6, .inr (.inr (.inr (.inr (refA 6 B))))))]]) rfl ?_
    refine V_aload_n hC dX8_block_86 0 rfl ?_
    refine V_get hC dX8_block_87 inAX8 (mem_at 1 0 rfl rfl) rfl 1 (by decide) q273 rfl (v := .int (nI (nb + 1))) rfl ?_
    refine V_iconst hC dX8_block_90 (v := 1) (by decide) ?_
    refine V_isub hC dX8_block_91 ?_
    refine V_eqi (y := nI nb) (nI_pred nb) ?_
    exact V_xiret hC hQ hr [1, 2, 0] (u := [[(X 0, .inr (9, [.ref (X 1), .int (nI (nb + 1)), .ref (X 2), .ref (X 6), .ref (X 8), .ref (X 10), .ref (X 14), .ref (X 18), .int (nI nl), .int du, .ref (X 19), .int mo, .ref (X 20), .int cl]))], [(X 1, .inl (G.2.1 3, 6, .inr (.inr (.inr (.inr (refA 6 B))))))], famW 6 (fun ι => bkP G (B ι) ((va_up bz nb (s0, (bz nb).2.1, tl5 (bz nb).2.2 v0 v1 v2 v3)) ι))]) (by decide) rfl (by decide) (by decide) dX8_block_92 (⟨⟨hk1, hk2, hk3, hk4, hk5⟩, hlt, rfl, rfl⟩)
  · have hfull : nb = 6 := by have := nnlt (b := 6) h6; omega
    exact V_throwS hC hT hl0 hQ (cls := "java/lang/IllegalStateException") (text := "no more BLOCKS can be told") (by decide +kernel) q398 q34 (by decide +kernel) excW_is (by decide +kernel) dX8_block_47 dX8_block_50 dX8_block_51 dX8_block_53 dX8_block_56 (by decide) (Nat.le_of_ble_eq_true rfl) (by decide) (by decide) (by decide) (by decide) [0, 1, 2] (by decide) rfl (Or.inr ⟨rfl, ⟨hk1, hk2, hk3, hk4, hk5⟩, hfull⟩)
set_option maxHeartbeats 4000000 in
set_option maxRecDepth 100000 in
/-- ClinkerWorks.blast -/
theorem c_X8_blast (l : Launch) (hl0 : l.stackTraces = false) (G : VG) (X : Nat → Nat) (nb nl : Nat) (du mo cl : Int32) (B : Nat → Nat → Nat) (bz : Nat → BV) (n : Nat) (f g h : Nat → Int32) (b x : Int32) (hnb : nb ≤ 6) (hn : n ≤ 8) : Xi l G yX8_blast cX8_blast 5 .int 7 104 3 18 [.ref (X 0), .int b, .int x] [[(X 0, .inr (9, [.ref (X 1), .int (nI nb), .ref (X 2), .ref (X 6), .ref (X 8), .ref (X 10), .ref (X 14), .ref (X 18), .int (nI nl), .int du, .ref (X 19), .int mo, .ref (X 20), .int cl]))], [(X 1, .inl (G.2.1 3, 6, .inr (.inr (.inr (.inr (refA 6 B))))))], famW 6 (fun ι => bkP G (B ι) (bz ι)), [(X 2, .inr (6, [.int (nI n), .ref (X 3), .ref (X 4), .ref (X 5)]))], [(X 3, .inl (G.2.1 0, 8, .inl f))], [(X 4, .inl (G.2.1 0, 8, .inl g))], [(X 5, .inl (G.2.1 0, 8, .inl h))]] (fun r u => ∃ i : Nat, i < nb ∧ b = nI i ∧ inR 1 99 x ∧ ¬ (bz i).1 = 0 ∧ n < 8 ∧ r = mn x (bz i).1 ∧ u = [[(X 0, .inr (9, [.ref (X 1), .int (nI nb), .ref (X 2), .ref (X 6), .ref (X 8), .ref (X 10), .ref (X 14), .ref (X 18), .int (nI nl), .int du, .ref (X 19), .int mo, .ref (X 20), .int cl]))], [(X 1, .inl (G.2.1 3, 6, .inr (.inr (.inr (.inr (refA 6 B))))))], famW 6 (fun ι => bkP G (B ι) ((va_up bz i ((bz i).1 - mn x (bz i).1, 1, (bz i).2.2)) ι)), [(X 2, .inr (6, [.int (nI (n + 1)), .ref (X 3), .ref (X 4), .ref (X 5)]))], [(X 3, .inl (G.2.1 0, 8, .inl (upd f n (nI i))))], [(X 4, .inl (G.2.1 0, 8, .inl (upd g n (mn x (bz i).1))))], [(X 5, .inl (G.2.1 0, 8, .inl h))]]) (fun E => (eIX E ∧ ixB b (nI nb) = 0) ∨ (eIA E ∧ ixB b (nI nb) = 1 ∧ ¬ inR 1 99 x) ∨ (eIS E ∧ ixB b (nI nb) = 1 ∧ inR 1 99 x ∧ ((bz b.toNatClampNeg).1 = 0 ∨ n = 8))) := by
  refine Xi_of (by decide) (Nat.le_of_ble_eq_true rfl) (fun pP eE sS mM aA bB tT cC AA QQ hC hr hT hQ => ?_)
  refine V_iload_n hC dX8_blast_0 1 rfl ?_
  refine V_aload_n hC dX8_blast_1 0 rfl ?_
  refine V_get hC dX8_blast_2 inAX8 (mem_at 0 0 rfl rfl) rfl 1 (by decide) q273 rfl (v := .int (nI nb)) rfl ?_
  refine V_xcallS hC hT hQ [.int b, .int (nI nb)] (c_X8_needIndex l hl0 G b (nI nb)) dX8_blast_5 q542 q543 q20 q544 ⟨by decide, by decide, rfl⟩ ⟨by decide, by decide⟩ rfl (Nat.le_of_ble_eq_true rfl) ⟨by decide, by decide⟩ rfl (by decide) (by decide) [0, 1, 2, 3, 4, 5, 6] (by decide) rfl (fun E hE => Or.inl hE) ?_ (fun u hu => hu.2)
  rintro _ ⟨hk1, rfl⟩ -
  refine V_iload_n hC dX8_blast_8 2 rfl ?_
  refine V_iconst hC dX8_blast_9 (v := 1) (by decide) ?_
  refine V_bipush hC dX8_blast_10 (v := 99) (by decide) ?_
  refine V_xcallS hC hT hQ [.int x, .int 1, .int 99] (c_X8_needArgument l hl0 G x 1 99) dX8_blast_12 q319 q320 q20 q321 ⟨by decide, by decide, rfl⟩ ⟨by decide, by decide⟩ rfl (Nat.le_of_ble_eq_true rfl) ⟨by decide, by decide⟩ rfl (by decide) (by decide) [0, 1, 2, 3, 4, 5, 6] (by decide) rfl (fun E hE => Or.inr (Or.inl ⟨hE.1, hk1, hE.2⟩)) ?_ (fun u hu => hu.2)
  rintro _ ⟨hk2, rfl⟩ -
  have hk1b := hk1
  obtain ⟨i, hi, rfl⟩ := ixB_of hk1
  refine V_aload_n hC dX8_blast_15 0 rfl ?_
  refine V_get hC dX8_blast_16 inAX8 (mem_at 0 0 rfl rfl) rfl 0 (by decide) q272 rfl (v := .ref (X 1)) rfl ?_
  refine V_iload_n hC dX8_blast_19 1 rfl ?_
  refine V_aald hC dX8_blast_20 3 rfl (mem_at 1 0 rfl rfl) (vp_in_nI (by omega) (by omega)) (x := i) (nI_clamp (by omega)) (b := (B i) 0) (refA_at (by omega)) ?_
  refine V_astore_n hC dX8_blast_21 (L' := [(3, .ref ((B i) 0)), (0, .ref (X 0)), (1, .int (nI i)), (2, .int x)]) (by decide) rfl ?_
  refine V_aload_n hC dX8_blast_22 0 rfl ?_
  refine V_get hC dX8_blast_23 inAX0 (mem_fam 2 0 rfl i (by first | assumption | omega) rfl) rfl 0 (by decide) q210 rfl (v := .int ((bz i).1)) rfl ?_
  refine V_if_eq hC dX8_blast_26 (tgt := 39) (by decide) (fun h3 => ?_) (fun h3 => ?_)
  · exact V_throwS hC hT hl0 hQ (cls := "java/lang/IllegalStateException") (text := "no STONE in the BLOCK, or no room for a LAYER") (by decide +kernel) q398 q34 (by decide +kernel) excW_is (by decide +kernel) dX8_blast_39 dX8_blast_42 dX8_blast_43 dX8_blast_45 dX8_blast_48 (by decide) (Nat.le_of_ble_eq_true rfl) (by decide) (by decide) (by decide) (by decide) [0, 1, 2, 3, 4, 5, 6] (by decide) rfl (Or.inr (Or.inr ⟨rfl, hk1b, hk2, Or.inl (by rw [nI_clamp (by omega)]; exact h3)⟩))
  · refine V_aload_n hC dX8_blast_29 1 rfl ?_
    refine V_get hC dX8_blast_30 inAX8 (mem_at 0 0 rfl rfl) rfl 2 (by decide) q274 rfl (v := .ref (X 2)) rfl ?_
    refine V_calli hC (V_runV hC (rest := []) [] (c_X5_isFull l G (X 2) (X 3) (X 4) (X 5) n f g h) [3, 4, 5, 6] rfl (by decide) q816 q817 q818 q21 q819 ⟨by decide, by decide, rfl⟩ ⟨by decide, by decide⟩ (ci := 6) rfl (mem_at 3 0 rfl rfl) rfl (Nat.le_of_ble_eq_true rfl) ⟨by decide, by decide⟩ dX8_blast_33) (is := [3, 4, 5, 6]) rfl [0, 1, 2] (rs := [[(X 0, .inr (9, [.ref (X 1), .int (nI nb), .ref (X 2), .ref (X 6), .ref (X 8), .ref (X 10), .ref (X 14), .ref (X 18), .int (nI nl), .int du, .ref (X 19), .int mo, .ref (X 20), .int cl]))], [(X 1, .inl (G.2.1 3, 6, .inr (.inr (.inr (.inr (refA 6 B))))))], famW 6 (fun ι => bkP G (B ι) (bz ι))]) rfl (by decide) (by decide) ?_
    rintro _ _ ⟨rfl, rfl⟩
    refine V_if_eq hC dX8_blast_36 (tgt := 49) (by decide) (fun h4 => ?_) (fun h4 => ?_)
    · have hlt : n < 8 := ful_0 (N := 8) h4
      refine V_iload_n hC dX8_blast_49 3 rfl ?_
      refine V_aload_n hC dX8_blast_50 0 rfl ?_
      refine V_get hC dX8_blast_51 inAX0 (mem_fam 6 0 rfl i (by first | assumption | omega) rfl) rfl 0 (by decide) q210 rfl (v := .int ((bz i).1)) rfl ?_
      refine V_mmin hC q821 q424 q35 q425 (by decide) (Nat.le_of_ble_eq_true rfl) (by decide) (by decide) dX8_blast_54 ?_
      refine V_istore hC dX8_blast_57 (L' := [(4, .int (mn x ((bz i).1))), (3, .ref ((B i) 0)), (0, .ref (X 0)), (1, .int (nI i)), (2, .int x)]) (by decide) rfl ?_
      refine V_aload_n hC dX8_blast_59 1 rfl ?_
      refine V_dup hC dX8_blast_60 rfl ?_
      refine V_get hC dX8_blast_61 inAX0 (mem_fam 6 0 rfl i (by first | assumption | omega) rfl) rfl 0 (by decide) q210 rfl (v := .int ((bz i).1)) rfl ?_
      refine V_iload hC dX8_blast_64 0 rfl ?_
      refine V_isub hC dX8_blast_66 ?_
      refine V_sub [6, 0, 1, 2, 3, 4, 5] (by decide) (u := [famW 6 (fun ι => bkP G (B ι) (bz ι)), [(X 2, .inr (6, [.int (nI n), .ref (X 3), .ref (X 4), .ref (X 5)]))], [(X 3, .inl (G.2.1 0, 8, .inl f))], [(X 4, .inl (G.2.1 0, 8, .inl g))], [(X 5, .inl (G.2.1 0, 8, .inl h))], [(X 0, .inr (9, [.ref (X 1), .int (nI nb), .ref (X 2), .ref (X 6), .ref (X 8), .ref (X 10), .ref (X 14), .ref (X 18), .int (nI nl), .int du, .ref (X 19), .int mo, .ref (X 20), .int cl]))], [(X 1, .inl (G.2.1 3, 6, .inr (.inr (.inr (.inr (refA 6 B))))))]]) rfl ?_
      refine V_open (i := i) (by omega) ?_
      refine V_put hC dX8_blast_67 inAX0 tyX0 tyX0_ok nmX0 0 0 rfl rfl rfl 0 (by decide) q210 rfl rfl (rfl) (rfl) (Nat.le_of_ble_eq_true rfl) (ps' := [bkP G (B i) (((bz i).1) - (mn x ((bz i).1)), (bz i).2.1, (bz i).2.2), famX 6 i (fun ι => bkP G (B ι) (bz ι)), [(X 2, .inr (6, [.int (nI n), .ref (X 3), .ref (X 4), .ref (X 5)]))], [(X 3, .inl (G.2.1 0, 8, .inl f))], [(X 4, .inl (G.2.1 0, 8, .inl g))], [(X 5, .inl (G.2.1 0, 8, .inl h))], [(X 0, .inr (9, [.ref (X 1), .int (nI nb), .ref (X 2), .ref (X 6), .ref (X 8), .ref (X 10), .ref (X 14), .ref (X 18), .int (nI nl), .int du, .ref (X 19), .int mo, .ref (X 20), .int cl]))], [(X 1, .inl (G.2.1 3, 6, .inr (.inr (.inr (.inr (refA 6 B))))))]]) rfl ?_
      refine V_aload_n hC dX8_blast_70 1 rfl ?_
      refine V_iconst hC dX8_blast_71 (v := 1) (by decide) ?_
      refine V_put hC dX8_blast_72 inAX0 tyX0 tyX0_ok nmX0 0 0 rfl rfl rfl 1 (by decide) q212 rfl rfl (rfl) (rfl) (Nat.le_of_ble_eq_true rfl) (ps' := [bkP G (B i) (((bz i).1) - (mn x ((bz i).1)), 1, (bz i).2.2), famX 6 i (fun ι => bkP G (B ι) (bz ι)), [(X 2, .inr (6, [.int (nI n), .ref (X 3), .ref (X 4), .ref (X 5)]))], [(X 3, .inl (G.2.1 0, 8, .inl f))], [(X 4, .inl (G.2.1 0, 8, .inl g))], [(X 5, .inl (G.2.1 0, 8, .inl h))], [(X 0, .inr (9, [.ref (X 1), .int (nI nb), .ref (X 2), .ref (X 6), .ref (X 8), .ref (X 10), .ref (X 14), .ref (X 18), .int (nI nl), .int du, .ref (X 19), .int mo, .ref (X 20), .int cl]))], [(X 1, .inl (G.2.1 3, 6, .inr (.inr (.inr (.inr (refA 6 B))))))]]) rfl ?_
      refine V_close (i := i) (g' := fun ι => bkP G (B ι) ((va_up bz i ((bz i).1 - mn x (bz i).1, 1, (bz i).2.2)) ι)) (by omega) (by simp [va_up]) (fun j _ hne => by simp [va_up, hne]) ?_
      refine V_aload_n hC dX8_blast_75 2 rfl ?_
      refine V_get hC dX8_blast_76 inAX8 (mem_at 5 0 rfl rfl) rfl 2 (by decide) q274 rfl (v := .ref (X 2)) rfl ?_
      refine V_iload_n hC dX8_blast_79 3 rfl ?_
      refine V_iload hC dX8_blast_80 0 rfl ?_
      refine V_callv hC (V_runV hC (rest := []) [.int (nI i), .int (mn x ((bz i).1))] (c_X5_addLayer l G (X 2) (X 3) (X 4) (X 5) n f g h (nI i) (mn x ((bz i).1)) hlt) [1, 2, 3, 4] rfl (by decide) q822 q823 q824 q21 q825 ⟨by decide, by decide, rfl⟩ ⟨by decide, by decide⟩ (ci := 6) rfl (mem_at 1 0 rfl rfl) rfl (Nat.le_of_ble_eq_true rfl) ⟨by decide, by decide⟩ dX8_blast_82) (is := [1, 2, 3, 4]) rfl [0, 5, 6] (rs := [famW 6 (fun ι => bkP G (B ι) ((va_up bz i ((bz i).1 - mn x (bz i).1, 1, (bz i).2.2)) ι)), [(X 0, .inr (9, [.ref (X 1), .int (nI nb), .ref (X 2), .ref (X 6), .ref (X 8), .ref (X 10), .ref (X 14), .ref (X 18), .int (nI nl), .int du, .ref (X 19), .int mo, .ref (X 20), .int cl]))], [(X 1, .inl (G.2.1 3, 6, .inr (.inr (.inr (.inr (refA 6 B))))))]]) rfl (by decide) (by decide) ?_
      rintro _ rfl
      refine V_iload hC dX8_blast_85 0 rfl ?_
      exact V_xiret hC hQ hr [5, 6, 4, 0, 1, 2, 3] (u := [[(X 0, .inr (9, [.ref (X 1), .int (nI nb), .ref (X 2), .ref (X 6), .ref (X 8), .ref (X 10), .ref (X 14), .ref (X 18), .int (nI nl), .int du, .ref (X 19), .int mo, .ref (X 20), .int cl]))], [(X 1, .inl (G.2.1 3, 6, .inr (.inr (.inr (.inr (refA 6 B))))))], famW 6 (fun ι => bkP G (B ι) ((va_up bz i ((bz i).1 - mn x (bz i).1, 1, (bz i).2.2)) ι)), [(X 2, .inr (6, [.int (nI (n + 1)), .ref (X 3), .ref (X 4), .ref (X 5)]))], [(X 3, .inl (G.2.1 0, 8, .inl (upd f n (nI i))))], [(X 4, .inl (G.2.1 0, 8, .inl (upd g n (mn x ((bz i).1)))))], [(X 5, .inl (G.2.1 0, 8, .inl h))]]) (by decide) rfl (by decide) (by decide) dX8_blast_87 (⟨i, hi, rfl, hk2, h3, hlt, rfl, rfl⟩)
    · have hfull : n = 8 := by have := ful_1 (N := 8) h4; omega
      exact V_throwS hC hT hl0 hQ (cls := "java/lang/IllegalStateException") (text := "no STONE in the BLOCK, or no room for a LAYER") (by decide +kernel) q398 q34 (by decide +kernel) excW_is (by decide +kernel) dX8_blast_39 dX8_blast_42 dX8_blast_43 dX8_blast_45 dX8_blast_48 (by decide) (Nat.le_of_ble_eq_true rfl) (by decide) (by decide) (by decide) (by decide) [4, 5, 6, 0, 1, 2, 3] (by decide) rfl (Or.inr (Or.inr ⟨rfl, hk1b, hk2, Or.inr hfull⟩))
set_option maxHeartbeats 4000000 in
set_option maxRecDepth 100000 in
/-- ClinkerWorks.mixCut -/
theorem c_X8_mixCut (l : Launch) (G : VG) (X : Nat → Nat) (nb nl : Nat) (du mo cl : Int32) (B : Nat → Nat → Nat) (bz : Nat → BV) (n : Nat) (f g h : Nat → Int32) (cm : Nat → Int32) (c : Nat) (x : Int32) (hnb : nb ≤ 6) (hn : n ≤ 8) (hc : c ≤ 9) (hx : x = nI c) (hf : ∀ j, j < n → ∃ v : Nat, v < nb ∧ f j = nI v) : Mv l G yX8_mixCut cX8_mixCut 4 3 65 0 0 [.ref (X 0), .int x] [[(X 0, .inr (9, [.ref (X 1), .int (nI nb), .ref (X 2), .ref (X 6), .ref (X 8), .ref (X 10), .ref (X 14), .ref (X 18), .int (nI nl), .int du, .ref (X 19), .int mo, .ref (X 20), .int cl]))], [(X 1, .inl (G.2.1 3, 6, .inr (.inr (.inr (.inr (refA 6 B))))))], famW 6 (fun ι => bkP G (B ι) (bz ι)), [(X 2, .inr (6, [.int (nI n), .ref (X 3), .ref (X 4), .ref (X 5)]))], [(X 3, .inl (G.2.1 0, 8, .inl f))], [(X 4, .inl (G.2.1 0, 8, .inl g))], [(X 5, .inl (G.2.1 0, 8, .inl h))], [(X 6, .inr (5, [.ref (X 7)]))], [(X 7, .inl (G.2.1 0, 4, .inl cm))]] (fun u => u = [[(X 0, .inr (9, [.ref (X 1), .int (nI nb), .ref (X 2), .ref (X 6), .ref (X 8), .ref (X 10), .ref (X 14), .ref (X 18), .int (nI nl), .int du, .ref (X 19), .int mo, .ref (X 20), .int cl]))], [(X 1, .inl (G.2.1 3, 6, .inr (.inr (.inr (.inr (refA 6 B))))))], famW 6 (fun ι => bkP G (B ι) (bz ι)), [(X 2, .inr (6, [.int (nI n), .ref (X 3), .ref (X 4), .ref (X 5)]))], [(X 3, .inl (G.2.1 0, 8, .inl f))], [(X 4, .inl (G.2.1 0, 8, .inl g))], [(X 5, .inl (G.2.1 0, 8, .inl (soAll g h n c)))], [(X 6, .inr (5, [.ref (X 7)]))], [(X 7, .inl (G.2.1 0, 4, .inl (mcF bz f (soAll g h n c) cm n)))]]) := by
  refine Mv_of (by decide) (Nat.le_of_ble_eq_true rfl) (fun pP eE sS mM aA bB tT cC AA QQ hC hr hnm hQ => ?_)
  subst hx
  refine V_aload_n hC dX8_mixCut_0 0 rfl ?_
  refine V_get hC dX8_mixCut_1 inAX8 (mem_at 0 0 rfl rfl) rfl 2 (by decide) q274 rfl (v := .ref (X 2)) rfl ?_
  refine V_iload_n hC dX8_mixCut_4 1 rfl ?_
  refine V_callv hC (V_runV hC (rest := []) [.int (nI c)] (c_X5_shareOut l G (X 2) (X 3) (X 4) (X 5) n c f g h (nI c) hn hc rfl) [3, 4, 5, 6] rfl (by decide) q418 q419 q420 q21 q421 ⟨by decide, by decide, rfl⟩ ⟨by decide, by decide⟩ (ci := 6) rfl (mem_at 3 0 rfl rfl) rfl (Nat.le_of_ble_eq_true rfl) ⟨by decide, by decide⟩ dX8_mixCut_5) (is := [3, 4, 5, 6]) rfl [0, 1, 2, 7, 8] (rs := [[(X 0, .inr (9, [.ref (X 1), .int (nI nb), .ref (X 2), .ref (X 6), .ref (X 8), .ref (X 10), .ref (X 14), .ref (X 18), .int (nI nl), .int du, .ref (X 19), .int mo, .ref (X 20), .int cl]))], [(X 1, .inl (G.2.1 3, 6, .inr (.inr (.inr (.inr (refA 6 B))))))], famW 6 (fun ι => bkP G (B ι) (bz ι)), [(X 6, .inr (5, [.ref (X 7)]))], [(X 7, .inl (G.2.1 0, 4, .inl cm))]]) rfl (by decide) (by decide) ?_
  rintro _ rfl
  refine V_aload_n hC dX8_mixCut_8 0 rfl ?_
  refine V_get hC dX8_mixCut_9 inAX8 (mem_at 4 0 rfl rfl) rfl 3 (by decide) q275 rfl (v := .ref (X 6)) rfl ?_
  refine V_callv hC (V_runV hC (rest := []) [] (c_X4_clear l G (X 6) (X 7) cm) [7, 8] rfl (by decide) q430 q431 q432 q22 q433 ⟨by decide, by decide, rfl⟩ ⟨by decide, by decide⟩ (ci := 5) rfl (mem_at 7 0 rfl rfl) rfl (Nat.le_of_ble_eq_true rfl) ⟨by decide, by decide⟩ dX8_mixCut_12) (is := [7, 8]) rfl [0, 1, 2, 3, 4, 5, 6] (rs := [[(X 2, .inr (6, [.int (nI n), .ref (X 3), .ref (X 4), .ref (X 5)]))], [(X 3, .inl (G.2.1 0, 8, .inl f))], [(X 4, .inl (G.2.1 0, 8, .inl g))], [(X 5, .inl (G.2.1 0, 8, .inl (soAll g h n c)))], [(X 0, .inr (9, [.ref (X 1), .int (nI nb), .ref (X 2), .ref (X 6), .ref (X 8), .ref (X 10), .ref (X 14), .ref (X 18), .int (nI nl), .int du, .ref (X 19), .int mo, .ref (X 20), .int cl]))], [(X 1, .inl (G.2.1 3, 6, .inr (.inr (.inr (.inr (refA 6 B))))))], famW 6 (fun ι => bkP G (B ι) (bz ι))]) rfl (by decide) (by decide) ?_
  rintro _ rfl
  refine V_iconst hC dX8_mixCut_15 (v := 0) (by decide) ?_
  refine V_istore_n hC dX8_mixCut_16 (L' := [(2, .int 0), (0, .ref (X 0)), (1, .int (nI c))]) (by decide) rfl ?_
  have loop1 : ∀ (fuel : Nat) (t : Nat) (ht : t ≤ n) (_ : n - t < fuel), V pP l eE { frames := 3, cells := 0, slots := 0, locals := 65 } sS mM aA bB tT cC QQ G AA 4 [[(X 0, .inr (9, [.ref (X 1), .int (nI nb), .ref (X 2), .ref (X 6), .ref (X 8), .ref (X 10), .ref (X 14), .ref (X 18), .int (nI nl), .int du, .ref (X 19), .int mo, .ref (X 20), .int cl]))], [(X 1, .inl (G.2.1 3, 6, .inr (.inr (.inr (.inr (refA 6 B))))))], famW 6 (fun ι => bkP G (B ι) (bz ι)), [(X 2, .inr (6, [.int (nI n), .ref (X 3), .ref (X 4), .ref (X 5)]))], [(X 3, .inl (G.2.1 0, 8, .inl f))], [(X 4, .inl (G.2.1 0, 8, .inl g))], [(X 5, .inl (G.2.1 0, 8, .inl (soAll g h n c)))], [(X 6, .inr (5, [.ref (X 7)]))], [(X 7, .inl (G.2.1 0, 4, .inl (mcF bz f (soAll g h n c) cm t)))]] 0 0 17 [(0, .ref (X 0)), (1, .int (nI c)), (2, .int (nI t))] [] := by
    intro fuel
    induction fuel with
    | zero => intro t ht hm; exact absurd hm (Nat.not_lt_zero _)
    | succ fuel ih =>
      intro t ht hm
      refine V_iload_n hC dX8_mixCut_17 2 rfl ?_
      refine V_aload_n hC dX8_mixCut_18 0 rfl ?_
      refine V_get hC dX8_mixCut_19 inAX8 (mem_at 0 0 rfl rfl) rfl 2 (by decide) q274 rfl (v := .ref (X 2)) rfl ?_
      refine V_get hC dX8_mixCut_22 inAX5 (mem_at 3 0 rfl rfl) rfl 0 (by decide) q54 rfl (v := .int (nI n)) rfl ?_
      refine V_icmp_ge hC dX8_mixCut_25 (tgt := 77) (by decide) (fun h2 => ?_) (fun h2 => ?_)
      · have he : t = n := by have := nle h2; omega
        rw [he]
        exact V_vret hC hQ hr [0, 1, 2, 3, 4, 5, 6, 7, 8] (u := [[(X 0, .inr (9, [.ref (X 1), .int (nI nb), .ref (X 2), .ref (X 6), .ref (X 8), .ref (X 10), .ref (X 14), .ref (X 18), .int (nI nl), .int du, .ref (X 19), .int mo, .ref (X 20), .int cl]))], [(X 1, .inl (G.2.1 3, 6, .inr (.inr (.inr (.inr (refA 6 B))))))], famW 6 (fun ι => bkP G (B ι) (bz ι)), [(X 2, .inr (6, [.int (nI n), .ref (X 3), .ref (X 4), .ref (X 5)]))], [(X 3, .inl (G.2.1 0, 8, .inl f))], [(X 4, .inl (G.2.1 0, 8, .inl g))], [(X 5, .inl (G.2.1 0, 8, .inl (soAll g h n c)))], [(X 6, .inr (5, [.ref (X 7)]))], [(X 7, .inl (G.2.1 0, 4, .inl (mcF bz f (soAll g h n c) cm n)))]]) (by decide) rfl (by decide) (by decide) dX8_mixCut_77 (rfl)
      · have hlt := nnle h2
        obtain ⟨v, hv, hfv⟩ := hf t hlt
        refine V_aload_n hC dX8_mixCut_28 0 rfl ?_
        refine V_get hC dX8_mixCut_29 inAX8 (mem_at 0 0 rfl rfl) rfl 2 (by decide) q274 rfl (v := .ref (X 2)) rfl ?_
        refine V_get hC dX8_mixCut_32 inAX5 (mem_at 3 0 rfl rfl) rfl 1 (by decide) q56 rfl (v := .ref (X 3)) rfl ?_
        refine V_iload_n hC dX8_mixCut_35 2 rfl ?_
        refine V_iald hC dX8_mixCut_36 (mem_at 4 0 rfl rfl) (vp_in_nI (by omega) (by omega)) (x := t) (nI_clamp (by omega)) ?_
        refine V_eqi (y := nI v) (hfv) ?_
        refine V_istore_n hC dX8_mixCut_37 (L' := [(3, .int (nI v)), (0, .ref (X 0)), (1, .int (nI c)), (2, .int (nI t))]) (by decide) rfl ?_
        refine V_iload_n hC dX8_mixCut_38 0 rfl ?_
        refine V_aload_n hC dX8_mixCut_39 1 rfl ?_
        refine V_get hC dX8_mixCut_40 inAX8 (mem_at 0 0 rfl rfl) rfl 1 (by decide) q273 rfl (v := .int (nI nb)) rfl ?_
        refine V_calli hC (V_runS hC (rest := []) [.int (nI v), .int (nI nb)] (c_X8_isIndex l G (nI v) (nI nb)) [] rfl (by decide) q434 q435 q20 q436 ⟨by decide, by decide, rfl⟩ ⟨by decide, by decide⟩ rfl (Nat.le_of_ble_eq_true rfl) ⟨by decide, by decide⟩ dX8_mixCut_43) (is := []) rfl [0, 1, 2, 3, 4, 5, 6, 7, 8] (rs := [[(X 0, .inr (9, [.ref (X 1), .int (nI nb), .ref (X 2), .ref (X 6), .ref (X 8), .ref (X 10), .ref (X 14), .ref (X 18), .int (nI nl), .int du, .ref (X 19), .int mo, .ref (X 20), .int cl]))], [(X 1, .inl (G.2.1 3, 6, .inr (.inr (.inr (.inr (refA 6 B))))))], famW 6 (fun ι => bkP G (B ι) (bz ι)), [(X 2, .inr (6, [.int (nI n), .ref (X 3), .ref (X 4), .ref (X 5)]))], [(X 3, .inl (G.2.1 0, 8, .inl f))], [(X 4, .inl (G.2.1 0, 8, .inl g))], [(X 5, .inl (G.2.1 0, 8, .inl (soAll g h n c)))], [(X 6, .inr (5, [.ref (X 7)]))], [(X 7, .inl (G.2.1 0, 4, .inl (mcF bz f (soAll g h n c) cm t)))]]) rfl (by decide) (by decide) ?_
        rintro _ _ ⟨rfl, rfl⟩
        refine V_eqi (y := 1) (ixB_in hv) ?_
        refine V_if_eqF hC dX8_mixCut_46 (tgt := 71) (by decide) (by decide) ?_
        refine V_aload_n hC dX8_mixCut_49 1 rfl ?_
        refine V_get hC dX8_mixCut_50 inAX8 (mem_at 0 0 rfl rfl) rfl 3 (by decide) q275 rfl (v := .ref (X 6)) rfl ?_
        refine V_aload_n hC dX8_mixCut_53 1 rfl ?_
        refine V_get hC dX8_mixCut_54 inAX8 (mem_at 0 0 rfl rfl) rfl 0 (by decide) q272 rfl (v := .ref (X 1)) rfl ?_
        refine V_iload_n hC dX8_mixCut_57 0 rfl ?_
        refine V_aald hC dX8_mixCut_58 3 rfl (mem_at 1 0 rfl rfl) (vp_in_nI (by omega) (by omega)) (x := v) (nI_clamp (by omega)) (b := (B v) 0) (refA_at (by omega)) ?_
        refine V_aload_n hC dX8_mixCut_59 1 rfl ?_
        refine V_get hC dX8_mixCut_60 inAX8 (mem_at 0 0 rfl rfl) rfl 2 (by decide) q274 rfl (v := .ref (X 2)) rfl ?_
        refine V_get hC dX8_mixCut_63 inAX5 (mem_at 3 0 rfl rfl) rfl 3 (by decide) q60 rfl (v := .ref (X 5)) rfl ?_
        refine V_iload_n hC dX8_mixCut_66 3 rfl ?_
        refine V_iald hC dX8_mixCut_67 (mem_at 6 0 rfl rfl) (vp_in_nI (by omega) (by omega)) (x := t) (nI_clamp (by omega)) ?_
        refine V_sub [2, 0, 1, 3, 4, 5, 6, 7, 8] (by decide) (u := [famW 6 (fun ι => bkP G (B ι) (bz ι)), [(X 0, .inr (9, [.ref (X 1), .int (nI nb), .ref (X 2), .ref (X 6), .ref (X 8), .ref (X 10), .ref (X 14), .ref (X 18), .int (nI nl), .int du, .ref (X 19), .int mo, .ref (X 20), .int cl]))], [(X 1, .inl (G.2.1 3, 6, .inr (.inr (.inr (.inr (refA 6 B))))))], [(X 2, .inr (6, [.int (nI n), .ref (X 3), .ref (X 4), .ref (X 5)]))], [(X 3, .inl (G.2.1 0, 8, .inl f))], [(X 4, .inl (G.2.1 0, 8, .inl g))], [(X 5, .inl (G.2.1 0, 8, .inl (soAll g h n c)))], [(X 6, .inr (5, [.ref (X 7)]))], [(X 7, .inl (G.2.1 0, 4, .inl (mcF bz f (soAll g h n c) cm t)))]]) rfl ?_
        refine V_open (i := v) (by omega) ?_
        refine V_callv hC (V_runV hC (rest := []) [.ref ((B v) 0), .int ((soAll g h n c) t)] (k_X4_addStone l G (X 6) (X 7) (mcF bz f (soAll g h n c) cm t) (B v) (bz v) ((soAll g h n c) t)) [8, 9, 0] rfl (by decide) q437 q438 q439 q22 q440 ⟨by decide, by decide, rfl⟩ ⟨by decide, by decide⟩ (ci := 5) rfl (mem_at 8 0 rfl rfl) rfl (Nat.le_of_ble_eq_true rfl) ⟨by decide, by decide⟩ dX8_mixCut_68) (is := [8, 9, 0]) rfl [1, 2, 3, 4, 5, 6, 7] (rs := [famX 6 v (fun ι => bkP G (B ι) (bz ι)), [(X 0, .inr (9, [.ref (X 1), .int (nI nb), .ref (X 2), .ref (X 6), .ref (X 8), .ref (X 10), .ref (X 14), .ref (X 18), .int (nI nl), .int du, .ref (X 19), .int mo, .ref (X 20), .int cl]))], [(X 1, .inl (G.2.1 3, 6, .inr (.inr (.inr (.inr (refA 6 B))))))], [(X 2, .inr (6, [.int (nI n), .ref (X 3), .ref (X 4), .ref (X 5)]))], [(X 3, .inl (G.2.1 0, 8, .inl f))], [(X 4, .inl (G.2.1 0, 8, .inl g))], [(X 5, .inl (G.2.1 0, 8, .inl (soAll g h n c)))]]) rfl (by decide) (by decide) ?_
        rintro _ rfl
        refine V_sub [2, 3, 0, 1, 4, 5, 6, 7, 8, 9] (by decide) (u := [bkP G (B v) (bz v), famX 6 v (fun ι => bkP G (B ι) (bz ι)), [(X 6, .inr (5, [.ref (X 7)]))], [(X 7, .inl (G.2.1 0, 4, .inl (mxStone (mcF bz f (soAll g h n c) cm t) (bkOx (bz v)) ((soAll g h n c) t))))], [(X 0, .inr (9, [.ref (X 1), .int (nI nb), .ref (X 2), .ref (X 6), .ref (X 8), .ref (X 10), .ref (X 14), .ref (X 18), .int (nI nl), .int du, .ref (X 19), .int mo, .ref (X 20), .int cl]))], [(X 1, .inl (G.2.1 3, 6, .inr (.inr (.inr (.inr (refA 6 B))))))], [(X 2, .inr (6, [.int (nI n), .ref (X 3), .ref (X 4), .ref (X 5)]))], [(X 3, .inl (G.2.1 0, 8, .inl f))], [(X 4, .inl (G.2.1 0, 8, .inl g))], [(X 5, .inl (G.2.1 0, 8, .inl (soAll g h n c)))]]) rfl ?_
        refine V_close (i := v) (g' := fun ι => bkP G (B ι) (bz ι)) (by omega) (rfl) (fun _ _ _ => rfl) ?_
        refine V_iinc hC dX8_mixCut_71 (v := nI (t + 1)) (L' := [(2, .int (nI (t + 1))), (3, .int (nI v)), (0, .ref (X 0)), (1, .int (nI c))]) (j := 3) rfl (nI_1 _) (by decide) rfl ?_
        refine V_goto hC dX8_mixCut_74 (tgt := 17) (by decide) ?_
        refine V_loc (L' := [(0, .ref (X 0)), (1, .int (nI c)), (2, .int (nI (t + 1)))]) [2, 3, 0] rfl ?_
        refine V_sub [3, 4, 0, 5, 6, 7, 8, 1, 2] (by decide) (u := [[(X 0, .inr (9, [.ref (X 1), .int (nI nb), .ref (X 2), .ref (X 6), .ref (X 8), .ref (X 10), .ref (X 14), .ref (X 18), .int (nI nl), .int du, .ref (X 19), .int mo, .ref (X 20), .int cl]))], [(X 1, .inl (G.2.1 3, 6, .inr (.inr (.inr (.inr (refA 6 B))))))], famW 6 (fun ι => bkP G (B ι) (bz ι)), [(X 2, .inr (6, [.int (nI n), .ref (X 3), .ref (X 4), .ref (X 5)]))], [(X 3, .inl (G.2.1 0, 8, .inl f))], [(X 4, .inl (G.2.1 0, 8, .inl g))], [(X 5, .inl (G.2.1 0, 8, .inl (soAll g h n c)))], [(X 6, .inr (5, [.ref (X 7)]))], [(X 7, .inl (G.2.1 0, 4, .inl (mxStone (mcF bz f (soAll g h n c) cm t) (bkOx (bz v)) ((soAll g h n c) t))))]]) rfl ?_
        have e : mcF bz f (soAll g h n c) cm (t + 1) = mxStone (mcF bz f (soAll g h n c) cm t) (bkOx (bz v)) ((soAll g h n c) t) := by show mxStone _ (bkOx (bz (f t).toNatClampNeg)) _ = _; rw [hfv, nI_clamp (by omega)]
        have hh := ih (t + 1) (by omega) (by omega)
        rw [e] at hh
        exact hh
  refine V_loc (L' := [(0, .ref (X 0)), (1, .int (nI c)), (2, .int 0)]) [1, 2, 0] rfl ?_
  refine V_sub [6, 7, 8, 2, 3, 4, 5, 0, 1] (by decide) (u := [[(X 0, .inr (9, [.ref (X 1), .int (nI nb), .ref (X 2), .ref (X 6), .ref (X 8), .ref (X 10), .ref (X 14), .ref (X 18), .int (nI nl), .int du, .ref (X 19), .int mo, .ref (X 20), .int cl]))], [(X 1, .inl (G.2.1 3, 6, .inr (.inr (.inr (.inr (refA 6 B))))))], famW 6 (fun ι => bkP G (B ι) (bz ι)), [(X 2, .inr (6, [.int (nI n), .ref (X 3), .ref (X 4), .ref (X 5)]))], [(X 3, .inl (G.2.1 0, 8, .inl f))], [(X 4, .inl (G.2.1 0, 8, .inl g))], [(X 5, .inl (G.2.1 0, 8, .inl (soAll g h n c)))], [(X 6, .inr (5, [.ref (X 7)]))], [(X 7, .inl (G.2.1 0, 4, .inl (mxClear cm)))]]) rfl ?_
  exact loop1 (n + 1) 0 (Nat.zero_le _) (by omega)
