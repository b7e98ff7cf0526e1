/-! ===== the law: its helpers ===== -/
set_option maxHeartbeats 4000000 in
set_option maxRecDepth 100000 in
/-- ClinkerWorks.grind -/
theorem c_X8y_grind (l : Launch) (hl0 : l.stackTraces = false) (G : VG) (X : Nat → Nat) (nb nl : Nat) (du mo cl : Int32) (T : Nat → Nat → Nat) (lz : Nat → LV) (Z : Nat → Nat → Nat) (sz : Nat → SV) (b x y s : Int32) (hnl : nl ≤ 12) (hz : ∀ i, i < nl → ltGr ((lz i).1 2) = 0 → ∀ j, j < 2 → (sz j).1 < 12) : Xi l G yX8_grind cX8_grind 5 .int 7 104 5 30 [.ref (X 0), .int b, .int x, .int y, .int s] [[(X 0, .inr (9, [.ref (X 1), .int (nI nb), .ref (X 2), .ref (X 6), .ref (X 8), .ref (X 10), .ref (X 14), .ref (X 18), .int (nI nl), .int du, .ref (X 19), .int mo, .ref (X 20), .int cl]))], [(X 18, .inl (G.2.1 5, 12, .inr (.inr (.inr (.inr (refA 12 T))))))], famW 12 (fun ι => ltP G (T ι) (lz ι)), [(X 19, .inl (G.2.1 6, 2, .inr (.inr (.inr (.inr (refA 2 Z))))))], famW 2 (fun ι => slP G (Z ι) (sz ι))] (fun r u => ∃ i j : Nat, i < nl ∧ b = nI i ∧ j < 2 ∧ s = nI j ∧ (inR 1 9 x ∧ inR 0 9 y) ∧ ltGr ((lz i).1 2) = 0 ∧ r = mx 1 (mxSum (lz i).2.2.2.1) ∧ u = [[(X 0, .inr (9, [.ref (X 1), .int (nI nb), .ref (X 2), .ref (X 6), .ref (X 8), .ref (X 10), .ref (X 14), .ref (X 18), .int (nI nl), .int du, .ref (X 19), .int mo, .ref (X 20), .int cl]))], [(X 18, .inl (G.2.1 5, 12, .inr (.inr (.inr (.inr (refA 12 T))))))], famW 12 (fun ι => ltP G (T ι) ((va_up lz i (ltGround x y (nI j) (lz i))) ι)), [(X 19, .inl (G.2.1 6, 2, .inr (.inr (.inr (.inr (refA 2 Z))))))], famW 2 (fun ι => slP G (Z ι) ((va_up sz j ((sz j).1 + 1, (sz j).2.1, upd (sz j).2.2 (sz j).1 (nI i))) ι))]) (fun E => (eIX E ∧ ixB b (nI nl) = 0) ∨ (eIX E ∧ ixB b (nI nl) = 1 ∧ ixB s 2 = 0) ∨ (eIA E ∧ ixB b (nI nl) = 1 ∧ ixB s 2 = 1 ∧ ¬ (inR 1 9 x ∧ inR 0 9 y)) ∨ (eIS E ∧ ixB b (nI nl) = 1 ∧ ixB s 2 = 1 ∧ (inR 1 9 x ∧ inR 0 9 y) ∧ ¬ ltGr ((lz b.toNatClampNeg).1 2) = 0)) := by
  refine Xi_of (by decide) (Nat.le_of_ble_eq_true rfl) (fun pP eE sS mM aA bB tT cC AA QQ hC hr hT hQ => ?_)
  refine V_iload_n hC dX8_grind_0 1 rfl ?_
  refine V_aload_n hC dX8_grind_1 0 rfl ?_
  refine V_get hC dX8_grind_2 inAX8 (mem_at 0 0 rfl rfl) rfl 8 (by decide) q318 rfl (v := .int (nI nl)) rfl ?_
  refine V_xcallS hC hT hQ [.int b, .int (nI nl)] (c_X8_needIndex l hl0 G b (nI nl)) dX8_grind_5 q480 q481 q43 q482 ⟨by decide, by decide, rfl⟩ ⟨by decide, by decide⟩ rfl (Nat.le_of_ble_eq_true rfl) ⟨by decide, by decide⟩ rfl (by decide) (by decide) [0, 1, 2, 3, 4] (by decide) rfl (fun E hE => Or.inl hE) ?_ (fun u hu => hu.2)
  rintro _ ⟨hk1, rfl⟩ -
  refine V_iload hC dX8_grind_8 4 rfl ?_
  refine V_iconst hC dX8_grind_10 (v := 2) (by decide) ?_
  refine V_xcallS hC hT hQ [.int s, .int 2] (c_X8_needIndex l hl0 G s 2) dX8_grind_11 q480 q481 q43 q482 ⟨by decide, by decide, rfl⟩ ⟨by decide, by decide⟩ rfl (Nat.le_of_ble_eq_true rfl) ⟨by decide, by decide⟩ rfl (by decide) (by decide) [0, 1, 2, 3, 4] (by decide) rfl (fun E hE => Or.inr (Or.inl ⟨hE.1, hk1, hE.2⟩)) ?_ (fun u hu => hu.2)
  rintro _ ⟨hk2, rfl⟩ -
  refine V_iload_n hC dX8_grind_14 2 rfl ?_
  refine V_iconst hC dX8_grind_15 (v := 1) (by decide) ?_
  refine V_bipush hC dX8_grind_16 (v := 9) (by decide) ?_
  refine V_xcallS hC hT hQ [.int x, .int 1, .int 9] (c_X8_needArgument l hl0 G x 1 9) dX8_grind_18 q390 q391 q43 q392 ⟨by decide, by decide, rfl⟩ ⟨by decide, by decide⟩ rfl (Nat.le_of_ble_eq_true rfl) ⟨by decide, by decide⟩ rfl (by decide) (by decide) [0, 1, 2, 3, 4] (by decide) rfl (fun E hE => Or.inr (Or.inr (Or.inl ⟨hE.1, hk1, hk2, fun e => hE.2 e.1⟩))) ?_ (fun u hu => hu.2)
  rintro _ ⟨hk3, rfl⟩ -
  refine V_iload_n hC dX8_grind_21 3 rfl ?_
  refine V_iconst hC dX8_grind_22 (v := 0) (by decide) ?_
  refine V_bipush hC dX8_grind_23 (v := 9) (by decide) ?_
  refine V_xcallS hC hT hQ [.int y, .int 0, .int 9] (c_X8_needArgument l hl0 G y 0 9) dX8_grind_25 q390 q391 q43 q392 ⟨by decide, by decide, rfl⟩ ⟨by decide, by decide⟩ rfl (Nat.le_of_ble_eq_true rfl) ⟨by decide, by decide⟩ rfl (by decide) (by decide) [0, 1, 2, 3, 4] (by decide) rfl (fun E hE => Or.inr (Or.inr (Or.inl ⟨hE.1, hk1, hk2, fun e => hE.2 e.2⟩))) ?_ (fun u hu => hu.2)
  rintro _ ⟨hk4, rfl⟩ -
  have hok : inR 1 9 x ∧ inR 0 9 y := ⟨hk3, hk4⟩
  have hk1b := hk1
  have hk2b := hk2
  obtain ⟨i, hi, rfl⟩ := ixB_of hk1
  obtain ⟨j, hj, rfl⟩ := ixB_of (n := 2) hk2
  refine V_aload_n hC dX8_grind_28 0 rfl ?_
  refine V_get hC dX8_grind_29 inAX8 (mem_at 0 0 rfl rfl) rfl 7 (by decide) q317 rfl (v := .ref (X 18)) rfl ?_
  refine V_iload_n hC dX8_grind_32 1 rfl ?_
  refine V_aald hC dX8_grind_33 5 rfl (mem_at 1 0 rfl rfl) (vp_in_nI (by omega) (by omega)) (x := i) (nI_clamp (by omega)) (b := (T i) 0) (refA_at (by omega)) ?_
  refine V_sub [2, 0, 1, 3, 4] (by decide) (u := [famW 12 (fun ι => ltP G (T ι) (lz ι)), [(X 0, .inr (9, [.ref (X 1), .int (nI nb), .ref (X 2), .ref (X 6), .ref (X 8), .ref (X 10), .ref (X 14), .ref (X 18), .int (nI nl), .int du, .ref (X 19), .int mo, .ref (X 20), .int cl]))], [(X 18, .inl (G.2.1 5, 12, .inr (.inr (.inr (.inr (refA 12 T))))))], [(X 19, .inl (G.2.1 6, 2, .inr (.inr (.inr (.inr (refA 2 Z))))))], famW 2 (fun ι => slP G (Z ι) (sz ι))]) rfl ?_
  refine V_open (i := i) (by omega) ?_
  refine V_calli hC (V_runV hC (rest := []) [] (k_X3_isGround l G (T i) (lz i)) [0] rfl (by decide) q814 q815 q816 q50 q817 ⟨by decide, by decide, rfl⟩ ⟨by decide, by decide⟩ (ci := 4) rfl (mem_at 0 0 rfl rfl) rfl (Nat.le_of_ble_eq_true rfl) ⟨by decide, by decide⟩ dX8_grind_34) (is := [0]) rfl [1, 2, 3, 4, 5] (rs := [famX 12 i (fun ι => ltP G (T ι) (lz ι)), [(X 0, .inr (9, [.ref (X 1), .int (nI nb), .ref (X 2), .ref (X 6), .ref (X 8), .ref (X 10), .ref (X 14), .ref (X 18), .int (nI nl), .int du, .ref (X 19), .int mo, .ref (X 20), .int cl]))], [(X 18, .inl (G.2.1 5, 12, .inr (.inr (.inr (.inr (refA 12 T))))))], [(X 19, .inl (G.2.1 6, 2, .inr (.inr (.inr (.inr (refA 2 Z))))))], famW 2 (fun ι => slP G (Z ι) (sz ι))]) rfl (by decide) (by decide) ?_
  rintro _ _ ⟨rfl, rfl⟩
  refine V_if_eq hC dX8_grind_37 (tgt := 50) (by decide) (fun h5 => ?_) (fun h5 => ?_)
  · refine V_aload_n hC dX8_grind_50 0 rfl ?_
    refine V_get hC dX8_grind_51 inAX8 (mem_at 2 0 rfl rfl) rfl 7 (by decide) q317 rfl (v := .ref (X 18)) rfl ?_
    refine V_iload_n hC dX8_grind_54 1 rfl ?_
    refine V_aald hC dX8_grind_55 5 rfl (mem_at 3 0 rfl rfl) (vp_in_nI (by omega) (by omega)) (x := i) (nI_clamp (by omega)) (b := (T i) 0) (refA_at (by omega)) ?_
    refine V_iload_n hC dX8_grind_56 2 rfl ?_
    refine V_iload_n hC dX8_grind_57 3 rfl ?_
    refine V_iload hC dX8_grind_58 4 rfl ?_
    refine V_callv hC (V_runV hC (rest := []) [.int x, .int y, .int (nI j)] (k_X3_setGround l G (T i) (lz i) x y (nI j)) [0] rfl (by decide) q819 q820 q821 q50 q822 ⟨by decide, by decide, rfl⟩ ⟨by decide, by decide⟩ (ci := 4) rfl (mem_at 0 0 rfl rfl) rfl (Nat.le_of_ble_eq_true rfl) ⟨by decide, by decide⟩ dX8_grind_60) (is := [0]) rfl [1, 2, 3, 4, 5] (rs := [famX 12 i (fun ι => ltP G (T ι) (lz ι)), [(X 0, .inr (9, [.ref (X 1), .int (nI nb), .ref (X 2), .ref (X 6), .ref (X 8), .ref (X 10), .ref (X 14), .ref (X 18), .int (nI nl), .int du, .ref (X 19), .int mo, .ref (X 20), .int cl]))], [(X 18, .inl (G.2.1 5, 12, .inr (.inr (.inr (.inr (refA 12 T))))))], [(X 19, .inl (G.2.1 6, 2, .inr (.inr (.inr (.inr (refA 2 Z))))))], famW 2 (fun ι => slP G (Z ι) (sz ι))]) rfl (by decide) (by decide) ?_
    rintro _ rfl
    refine V_aload_n hC dX8_grind_63 0 rfl ?_
    refine V_get hC dX8_grind_64 inAX8 (mem_at 2 0 rfl rfl) rfl 10 (by decide) q320 rfl (v := .ref (X 19)) rfl ?_
    refine V_iload hC dX8_grind_67 4 rfl ?_
    refine V_aald hC dX8_grind_69 6 rfl (mem_at 4 0 rfl rfl) (vp_in_nI (by omega) (by omega)) (x := j) (nI_clamp (by omega)) (b := (Z j) 0) (refA_at (by omega)) ?_
    refine V_sub [5, 0, 1, 2, 3, 4] (by decide) (u := [famW 2 (fun ι => slP G (Z ι) (sz ι)), ltP G (T i) (ltGround x y (nI j) (lz i)), famX 12 i (fun ι => ltP G (T ι) (lz ι)), [(X 0, .inr (9, [.ref (X 1), .int (nI nb), .ref (X 2), .ref (X 6), .ref (X 8), .ref (X 10), .ref (X 14), .ref (X 18), .int (nI nl), .int du, .ref (X 19), .int mo, .ref (X 20), .int cl]))], [(X 18, .inl (G.2.1 5, 12, .inr (.inr (.inr (.inr (refA 12 T))))))], [(X 19, .inl (G.2.1 6, 2, .inr (.inr (.inr (.inr (refA 2 Z))))))]]) rfl ?_
    refine V_open (i := j) (hj) ?_
    refine V_iload_n hC dX8_grind_70 1 rfl ?_
    refine V_callv hC (V_runV hC (rest := []) [.int (nI i)] (k_X6_addLot l G (Z j) (sz j) (nI i) (hz i hi h5 j hj)) [0] rfl (by decide) q828 q829 q830 q51 q831 ⟨by decide, by decide, rfl⟩ ⟨by decide, by decide⟩ (ci := 7) rfl (mem_at 0 0 rfl rfl) rfl (Nat.le_of_ble_eq_true rfl) ⟨by decide, by decide⟩ dX8_grind_71) (is := [0]) rfl [1, 2, 3, 4, 5, 6] (rs := [famX 2 j (fun ι => slP G (Z ι) (sz ι)), ltP G (T i) (ltGround x y (nI j) (lz i)), famX 12 i (fun ι => ltP G (T ι) (lz ι)), [(X 0, .inr (9, [.ref (X 1), .int (nI nb), .ref (X 2), .ref (X 6), .ref (X 8), .ref (X 10), .ref (X 14), .ref (X 18), .int (nI nl), .int du, .ref (X 19), .int mo, .ref (X 20), .int cl]))], [(X 18, .inl (G.2.1 5, 12, .inr (.inr (.inr (.inr (refA 12 T))))))], [(X 19, .inl (G.2.1 6, 2, .inr (.inr (.inr (.inr (refA 2 Z))))))]]) rfl (by decide) (by decide) ?_
    rintro _ rfl
    refine V_aload_n hC dX8_grind_74 0 rfl ?_
    refine V_get hC dX8_grind_75 inAX8 (mem_at 4 0 rfl rfl) rfl 7 (by decide) q317 rfl (v := .ref (X 18)) rfl ?_
    refine V_iload_n hC dX8_grind_78 1 rfl ?_
    refine V_aald hC dX8_grind_79 5 rfl (mem_at 5 0 rfl rfl) (vp_in_nI (by omega) (by omega)) (x := i) (nI_clamp (by omega)) (b := (T i) 0) (refA_at (by omega)) ?_
    refine V_get hC dX8_grind_80 inAX3 (mem_at 2 0 rfl rfl) rfl 5 (by decide) q276 rfl (v := .int (((ltGround x y (nI j) (lz i)).1) 4)) rfl ?_
    refine V_close (i := j) (g' := fun ι => slP G (Z ι) (((va_up sz j ((sz j).1 + 1, (sz j).2.1, upd (sz j).2.2 (sz j).1 (nI i)))) ι)) (hj) (by simp [va_up]) (fun j _ hne => by simp [va_up, hne]) ?_
    refine V_sub [1, 2, 0, 3, 4, 5] (by decide) (u := [ltP G (T i) (ltGround x y (nI j) (lz i)), famX 12 i (fun ι => ltP G (T ι) (lz ι)), famW 2 (fun ι => slP G (Z ι) (((va_up sz j ((sz j).1 + 1, (sz j).2.1, upd (sz j).2.2 (sz j).1 (nI i)))) ι)), [(X 0, .inr (9, [.ref (X 1), .int (nI nb), .ref (X 2), .ref (X 6), .ref (X 8), .ref (X 10), .ref (X 14), .ref (X 18), .int (nI nl), .int du, .ref (X 19), .int mo, .ref (X 20), .int cl]))], [(X 18, .inl (G.2.1 5, 12, .inr (.inr (.inr (.inr (refA 12 T))))))], [(X 19, .inl (G.2.1 6, 2, .inr (.inr (.inr (.inr (refA 2 Z))))))]]) rfl ?_
    refine V_close (i := i) (g' := fun ι => ltP G (T ι) (((va_up lz i (ltGround x y (nI j) (lz i)))) ι)) (by omega) (by simp [va_up]) (fun j _ hne => by simp [va_up, hne]) ?_
    exact V_xiret hC hQ hr [2, 3, 0, 4, 1] (u := [[(X 0, .inr (9, [.ref (X 1), .int (nI nb), .ref (X 2), .ref (X 6), .ref (X 8), .ref (X 10), .ref (X 14), .ref (X 18), .int (nI nl), .int du, .ref (X 19), .int mo, .ref (X 20), .int cl]))], [(X 18, .inl (G.2.1 5, 12, .inr (.inr (.inr (.inr (refA 12 T))))))], famW 12 (fun ι => ltP G (T ι) (((va_up lz i (ltGround x y (nI j) (lz i)))) ι)), [(X 19, .inl (G.2.1 6, 2, .inr (.inr (.inr (.inr (refA 2 Z))))))], famW 2 (fun ι => slP G (Z ι) (((va_up sz j ((sz j).1 + 1, (sz j).2.1, upd (sz j).2.2 (sz j).1 (nI i)))) ι))]) (by decide) rfl (by decide) (by decide) dX8_grind_83 (⟨i, j, hi, rfl, hj, rfl, hok, h5, rfl, rfl⟩)
  · refine V_close (i := i) (g' := fun ι => ltP G (T ι) (lz ι)) (by omega) (rfl) (fun _ _ _ => rfl) ?_
    exact V_throwS hC hT hl0 hQ (cls := "java/lang/IllegalStateException") (text := "the LOT was ground") (by decide +kernel) q576 q62 (by decide +kernel) excW_is (by decide +kernel) dX8_grind_40 dX8_grind_43 dX8_grind_44 dX8_grind_46 dX8_grind_49 (by decide) (Nat.le_of_ble_eq_true rfl) (by decide) (by decide) (by decide) (by decide) [1, 2, 0, 3, 4] (by decide) rfl (Or.inr (Or.inr (Or.inr ⟨rfl, hk1b, hk2b, hok, by rw [nI_clamp (by omega)]; exact h5⟩)))
set_option maxHeartbeats 4000000 in
set_option maxRecDepth 100000 in
/-- a helper of the law -/
theorem h_block (l : Launch) (hl0 : l.stackTraces = false) (G : VG) (X : Nat → Nat) (nb nl : Nat) (du mo cl : Int32) (B : Nat → Nat → Nat) (bz : Nat → BV) (s0 v0 v1 v2 v3 : Int32) (o : Nat) (of : Nat → Int64) (hnb : nb ≤ 6) : Hi l G yL_block cL_block 8 [(0, 16, 19, 13), (0, 16, 23, 15)] 8 129 6 36 [.ref (X 0), .int s0, .int v0, .int v1, .int v2, .int v3, .ref o] [[(o, .inl (G.2.1 2, 1, .inr (.inl (of))))], [(X 0, .inr (9, [.ref (X 1), .int (nI nb), .ref (X 2), .ref (X 6), .ref (X 8), .ref (X 10), .ref (X 14), .ref (X 18), .int (nI nl), .int du, .ref (X 19), .int mo, .ref (X 20), .int cl]))], [(X 1, .inl (G.2.1 3, 6, .inr (.inr (.inr (.inr (refA 6 B))))))], famW 6 (fun ι => bkP G (B ι) (bz ι))] (fun r u => (∃ tt : Int32, ((tt = 1 ∧ ¬ bkOk s0 v0 v1 v2 v3) ∨ (tt = 2 ∧ bkOk s0 v0 v1 v2 v3 ∧ nb = 6)) ∧ r = tt ∧ u = [[(o, .inl (G.2.1 2, 1, .inr (.inl (of))))], [(X 0, .inr (9, [.ref (X 1), .int (nI nb), .ref (X 2), .ref (X 6), .ref (X 8), .ref (X 10), .ref (X 14), .ref (X 18), .int (nI nl), .int du, .ref (X 19), .int mo, .ref (X 20), .int cl]))], [(X 1, .inl (G.2.1 3, 6, .inr (.inr (.inr (.inr (refA 6 B))))))], famW 6 (fun ι => bkP G (B ι) (bz ι))]) ∨ (∃ (rv : Int32) (v : List va_W), (fun r u => bkOk s0 v0 v1 v2 v3 ∧ nb < 6 ∧ r = nI nb ∧ u = [[(X 0, .inr (9, [.ref (X 1), .int (nI (nb + 1)), .ref (X 2), .ref (X 6), .ref (X 8), .ref (X 10), .ref (X 14), .ref (X 18), .int (nI nl), .int du, .ref (X 19), .int mo, .ref (X 20), .int cl]))], [(X 1, .inl (G.2.1 3, 6, .inr (.inr (.inr (.inr (refA 6 B))))))], famW 6 (fun ι => bkP G (B ι) ((va_up bz nb (s0, (bz nb).2.1, tl5 (bz nb).2.2 v0 v1 v2 v3)) ι))]) rv v ∧ r = 0 ∧ u = [(o, .inl (G.2.1 2, 1, .inr (.inl (vp_updL of 0 rv.toInt64))))] :: v)) := by
  refine Hi_of (by decide) (Nat.le_of_ble_eq_true rfl) (fun pP eE sS mM aA bB tT cC AA QQ hC hN hT hr hQ => ?_)
  refine V_aload hC dL_block_0 6 rfl ?_
  refine V_iconst hC dL_block_2 (v := 0) (by decide) ?_
  refine V_aload_n hC dL_block_3 0 rfl ?_
  refine V_iload_n hC dL_block_4 1 rfl ?_
  refine V_iload_n hC dL_block_5 2 rfl ?_
  refine V_iload_n hC dL_block_6 3 rfl ?_
  refine V_iload hC dL_block_7 4 rfl ?_
  refine V_iload hC dL_block_9 5 rfl ?_
  refine V_xcallV hC [.int s0, .int v0, .int v1, .int v2, .int v3] (c_X8_block l hl0 G X nb nl du mo cl B bz s0 v0 v1 v2 v3 hnb) dL_block_11 q720 q721 q722 q43 q723 ⟨by decide, by decide, rfl⟩ ⟨by decide, by decide⟩ (ci := 9) rfl (mem_at 1 0 rfl rfl) rfl (Nat.le_of_ble_eq_true rfl) ⟨by decide, by decide⟩ (is := [1, 2, 3]) rfl (by decide) [0] (rs := [[(o, .inl (G.2.1 2, 1, .inr (.inl (of))))]]) rfl (by decide) (by decide) (fun E hE => ?_) (fun rv u hp => ?_)
  · rcases hE with ⟨rfl, hx⟩ | ⟨rfl, hx⟩
    · refine ⟨19, HOK_of hC hN hT [] [(0, 16, 23, 15)] (0, 16, 19, 13) rfl (fun _ h9 => absurd h9 List.not_mem_nil) (by decide) (by decide) q718 soft_cA rfl, fun q => ?_⟩
      refine V_swap ?_
      refine V_astore hC dL_block_19 (L' := [(7, .ref q), (0, .ref (X 0)), (1, .int s0), (2, .int v0), (3, .int v1), (4, .int v2), (5, .int v3), (6, .ref o)]) (by decide) rfl ?_
      refine V_iconst hC dL_block_21 (v := 1) (by decide) ?_
      exact V_iretA hC hQ hr (by decide) (by decide) dL_block_22 (Or.inl ⟨1, Or.inl ⟨rfl, hx⟩, rfl, rfl⟩)
    · refine ⟨23, HOK_of hC hN hT [(0, 16, 19, 13)] [] (0, 16, 23, 15) rfl (List.forall_mem_cons.mpr ⟨⟨by decide, _, q718, by decide +kernel⟩, fun _ h9 => absurd h9 List.not_mem_nil⟩) (by decide) (by decide) q719 soft_cT rfl, fun q => ?_⟩
      refine V_swap ?_
      refine V_astore hC dL_block_23 (L' := [(7, .ref q), (0, .ref (X 0)), (1, .int s0), (2, .int v0), (3, .int v1), (4, .int v2), (5, .int v3), (6, .ref o)]) (by decide) rfl ?_
      refine V_iconst hC dL_block_25 (v := 2) (by decide) ?_
      exact V_iretA hC hQ hr (by decide) (by decide) dL_block_26 (Or.inl ⟨2, Or.inr (⟨rfl, hx⟩), rfl, rfl⟩)
  · refine V_swap ?_
    refine V_i2l hC dL_block_14 ?_
    refine V_last hC dL_block_15 0 0 rfl rfl (vin (by decide)) (z := 0) (by decide) (ps' := [(o, .inl (G.2.1 2, 1, .inr (.inl (vp_updL of 0 rv.toInt64))))] :: u) (rfl) ?_
    refine V_goto hC dL_block_16 (tgt := 27) (by decide) ?_
    refine V_iconst hC dL_block_27 (v := 0) (by decide) ?_
    exact V_iretA hC hQ hr (by decide) (by decide) dL_block_28 (Or.inr ⟨rv, u, hp, rfl, rfl⟩)
set_option maxHeartbeats 4000000 in
set_option maxRecDepth 100000 in
/-- a helper of the law -/
theorem h_drill (l : Launch) (hl0 : l.stackTraces = false) (G : VG) (X : Nat → Nat) (nb nl : Nat) (du mo cl : Int32) (B : Nat → Nat → Nat) (bz : Nat → BV) (b : Int32) (o : Nat) (of : Nat → Int64) (hnb : nb ≤ 6) : Hi l G yL_drill cL_drill 4 [(0, 16, 19, 21)] 8 125 1 6 [.ref (X 0), .int b, .ref o] [[(o, .inl (G.2.1 2, 1, .inr (.inl (of))))], [(X 0, .inr (9, [.ref (X 1), .int (nI nb), .ref (X 2), .ref (X 6), .ref (X 8), .ref (X 10), .ref (X 14), .ref (X 18), .int (nI nl), .int du, .ref (X 19), .int mo, .ref (X 20), .int cl]))], [(X 1, .inl (G.2.1 3, 6, .inr (.inr (.inr (.inr (refA 6 B))))))], famW 6 (fun ι => bkP G (B ι) (bz ι))] (fun r u => (∃ tt : Int32, ((tt = 1 ∧ ixB b (nI nb) = 0)) ∧ r = tt ∧ u = [[(o, .inl (G.2.1 2, 1, .inr (.inl (of))))], [(X 0, .inr (9, [.ref (X 1), .int (nI nb), .ref (X 2), .ref (X 6), .ref (X 8), .ref (X 10), .ref (X 14), .ref (X 18), .int (nI nl), .int du, .ref (X 19), .int mo, .ref (X 20), .int cl]))], [(X 1, .inl (G.2.1 3, 6, .inr (.inr (.inr (.inr (refA 6 B))))))], famW 6 (fun ι => bkP G (B ι) (bz ι))]) ∨ (∃ (rv : Int32) (v : List va_W), (fun r u => ∃ i : Nat, i < nb ∧ b = nI i ∧ r = (if (bz i).2.1 = 0 then 1 else 0) ∧ u = [[(X 0, .inr (9, [.ref (X 1), .int (nI nb), .ref (X 2), .ref (X 6), .ref (X 8), .ref (X 10), .ref (X 14), .ref (X 18), .int (nI nl), .int du, .ref (X 19), .int mo, .ref (X 20), .int cl]))], [(X 1, .inl (G.2.1 3, 6, .inr (.inr (.inr (.inr (refA 6 B))))))], famW 6 (fun ι => bkP G (B ι) ((va_up bz i ((bz i).1, 1, (bz i).2.2)) ι))]) rv v ∧ r = 0 ∧ u = [(o, .inl (G.2.1 2, 1, .inr (.inl (vp_updL of 0 rv.toInt64))))] :: v)) := by
  refine Hi_of (by decide) (Nat.le_of_ble_eq_true rfl) (fun pP eE sS mM aA bB tT cC AA QQ hC hN hT hr hQ => ?_)
  refine V_aload_n hC dL_drill_0 2 rfl ?_
  refine V_iconst hC dL_drill_1 (v := 0) (by decide) ?_
  refine V_aload_n hC dL_drill_2 0 rfl ?_
  refine V_iload_n hC dL_drill_3 1 rfl ?_
  refine V_xcallV hC [.int b] (c_X8_drill l hl0 G X nb nl du mo cl B bz b hnb) dL_drill_4 q733 q734 q735 q43 q736 ⟨by decide, by decide, rfl⟩ ⟨by decide, by decide⟩ (ci := 9) rfl (mem_at 1 0 rfl rfl) rfl (Nat.le_of_ble_eq_true rfl) ⟨by decide, by decide⟩ (is := [1, 2, 3]) rfl (by decide) [0] (rs := [[(o, .inl (G.2.1 2, 1, .inr (.inl (of))))]]) rfl (by decide) (by decide) (fun E hE => ?_) (fun rv u hp => ?_)
  · rcases hE with ⟨rfl, hx⟩
    · refine ⟨19, HOK_of hC hN hT [] [] (0, 16, 19, 21) rfl (fun _ h9 => absurd h9 List.not_mem_nil) (by decide) (by decide) q732 soft_cX rfl, fun q => ?_⟩
      refine V_swap ?_
      refine V_astore_n hC dL_drill_19 (L' := [(3, .ref q), (0, .ref (X 0)), (1, .int b), (2, .ref o)]) (by decide) rfl ?_
      refine V_iconst hC dL_drill_20 (v := 1) (by decide) ?_
      exact V_iretA hC hQ hr (by decide) (by decide) dL_drill_21 (Or.inl ⟨1, ⟨rfl, hx⟩, rfl, rfl⟩)
  · refine V_swap ?_
    obtain ⟨i9, _, _, hr9, _⟩ := id hp
    have h01 : rv = 0 ∨ rv = 1 := by rw [hr9]; split; exact Or.inr rfl; exact Or.inl rfl
    refine V_if_eq hC dL_drill_7 (tgt := 14) (by decide) (fun h9 => ?_) (fun h9 => ?_)
    · refine V_lconst hC dL_drill_14 (v := 0) (by decide) ?_
      refine V_last hC dL_drill_15 0 0 rfl rfl (vin (by decide)) (z := 0) (by decide) (ps' := [(o, .inl (G.2.1 2, 1, .inr (.inl (vp_updL of 0 rv.toInt64))))] :: u) (by rw [h9]; rfl) ?_
      refine V_goto hC dL_drill_16 (tgt := 22) (by decide) ?_
      refine V_iconst hC dL_drill_22 (v := 0) (by decide) ?_
      exact V_iretA hC hQ hr (by decide) (by decide) dL_drill_23 (Or.inr ⟨rv, u, hp, rfl, rfl⟩)
    · have h8 : rv = 1 := h01.resolve_left h9
      refine V_lconst hC dL_drill_10 (v := 1) (by decide) ?_
      refine V_goto hC dL_drill_11 (tgt := 15) (by decide) ?_
      refine V_last hC dL_drill_15 0 0 rfl rfl (vin (by decide)) (z := 0) (by decide) (ps' := [(o, .inl (G.2.1 2, 1, .inr (.inl (vp_updL of 0 rv.toInt64))))] :: u) (by rw [h8]; rfl) ?_
      refine V_goto hC dL_drill_16 (tgt := 22) (by decide) ?_
      refine V_iconst hC dL_drill_22 (v := 0) (by decide) ?_
      exact V_iretA hC hQ hr (by decide) (by decide) dL_drill_23 (Or.inr ⟨rv, u, hp, rfl, rfl⟩)
set_option maxHeartbeats 4000000 in
set_option maxRecDepth 100000 in
/-- a helper of the law -/
theorem h_blast (l : Launch) (hl0 : l.stackTraces = false) (G : VG) (X : Nat → Nat) (nb nl : Nat) (du mo cl : Int32) (B : Nat → Nat → Nat) (bz : Nat → BV) (n : Nat) (f g h : Nat → Int32) (b x : Int32) (o : Nat) (of : Nat → Int64) (hnb : nb ≤ 6) (hn : n ≤ 8) : Hi l G yL_blast cL_blast 5 [(0, 10, 13, 21), (0, 10, 17, 13), (0, 10, 21, 15)] 8 128 3 18 [.ref (X 0), .int b, .int x, .ref o] [[(o, .inl (G.2.1 2, 1, .inr (.inl (of))))], [(X 0, .inr (9, [.ref (X 1), .int (nI nb), .ref (X 2), .ref (X 6), .ref (X 8), .ref (X 10), .ref (X 14), .ref (X 18), .int (nI nl), .int du, .ref (X 19), .int mo, .ref (X 20), .int cl]))], [(X 1, .inl (G.2.1 3, 6, .inr (.inr (.inr (.inr (refA 6 B))))))], famW 6 (fun ι => bkP G (B ι) (bz ι)), [(X 2, .inr (6, [.int (nI n), .ref (X 3), .ref (X 4), .ref (X 5)]))], [(X 3, .inl (G.2.1 0, 8, .inl f))], [(X 4, .inl (G.2.1 0, 8, .inl g))], [(X 5, .inl (G.2.1 0, 8, .inl h))]] (fun r u => (∃ tt : Int32, ((tt = 1 ∧ ixB b (nI nb) = 0) ∨ (tt = 2 ∧ ixB b (nI nb) = 1 ∧ ¬ inR 1 99 x) ∨ (tt = 3 ∧ ixB b (nI nb) = 1 ∧ inR 1 99 x ∧ ((bz b.toNatClampNeg).1 = 0 ∨ n = 8))) ∧ r = tt ∧ u = [[(o, .inl (G.2.1 2, 1, .inr (.inl (of))))], [(X 0, .inr (9, [.ref (X 1), .int (nI nb), .ref (X 2), .ref (X 6), .ref (X 8), .ref (X 10), .ref (X 14), .ref (X 18), .int (nI nl), .int du, .ref (X 19), .int mo, .ref (X 20), .int cl]))], [(X 1, .inl (G.2.1 3, 6, .inr (.inr (.inr (.inr (refA 6 B))))))], famW 6 (fun ι => bkP G (B ι) (bz ι)), [(X 2, .inr (6, [.int (nI n), .ref (X 3), .ref (X 4), .ref (X 5)]))], [(X 3, .inl (G.2.1 0, 8, .inl f))], [(X 4, .inl (G.2.1 0, 8, .inl g))], [(X 5, .inl (G.2.1 0, 8, .inl h))]]) ∨ (∃ (rv : Int32) (v : List va_W), (fun r u => ∃ i : Nat, i < nb ∧ b = nI i ∧ inR 1 99 x ∧ ¬ (bz i).1 = 0 ∧ n < 8 ∧ r = mn x (bz i).1 ∧ u = [[(X 0, .inr (9, [.ref (X 1), .int (nI nb), .ref (X 2), .ref (X 6), .ref (X 8), .ref (X 10), .ref (X 14), .ref (X 18), .int (nI nl), .int du, .ref (X 19), .int mo, .ref (X 20), .int cl]))], [(X 1, .inl (G.2.1 3, 6, .inr (.inr (.inr (.inr (refA 6 B))))))], famW 6 (fun ι => bkP G (B ι) ((va_up bz i ((bz i).1 - mn x (bz i).1, 1, (bz i).2.2)) ι)), [(X 2, .inr (6, [.int (nI (n + 1)), .ref (X 3), .ref (X 4), .ref (X 5)]))], [(X 3, .inl (G.2.1 0, 8, .inl (upd f n (nI i))))], [(X 4, .inl (G.2.1 0, 8, .inl (upd g n (mn x (bz i).1))))], [(X 5, .inl (G.2.1 0, 8, .inl h))]]) rv v ∧ r = 0 ∧ u = [(o, .inl (G.2.1 2, 1, .inr (.inl (vp_updL of 0 rv.toInt64))))] :: v)) := by
  refine Hi_of (by decide) (Nat.le_of_ble_eq_true rfl) (fun pP eE sS mM aA bB tT cC AA QQ hC hN hT hr hQ => ?_)
  refine V_aload_n hC dL_blast_0 3 rfl ?_
  refine V_iconst hC dL_blast_1 (v := 0) (by decide) ?_
  refine V_aload_n hC dL_blast_2 0 rfl ?_
  refine V_iload_n hC dL_blast_3 1 rfl ?_
  refine V_iload_n hC dL_blast_4 2 rfl ?_
  refine V_xcallV hC [.int b, .int x] (c_X8_blast l hl0 G X nb nl du mo cl B bz n f g h b x hnb hn) dL_blast_5 q740 q741 q742 q43 q743 ⟨by decide, by decide, rfl⟩ ⟨by decide, by decide⟩ (ci := 9) rfl (mem_at 1 0 rfl rfl) rfl (Nat.le_of_ble_eq_true rfl) ⟨by decide, by decide⟩ (is := [1, 2, 3, 4, 5, 6, 7]) rfl (by decide) [0] (rs := [[(o, .inl (G.2.1 2, 1, .inr (.inl (of))))]]) rfl (by decide) (by decide) (fun E hE => ?_) (fun rv u hp => ?_)
  · rcases hE with ⟨rfl, hx⟩ | ⟨rfl, hx⟩ | ⟨rfl, hx⟩
    · refine ⟨13, HOK_of hC hN hT [] [(0, 10, 17, 13), (0, 10, 21, 15)] (0, 10, 13, 21) rfl (fun _ h9 => absurd h9 List.not_mem_nil) (by decide) (by decide) q732 soft_cX rfl, fun q => ?_⟩
      refine V_swap ?_
      refine V_astore hC dL_blast_13 (L' := [(4, .ref q), (0, .ref (X 0)), (1, .int b), (2, .int x), (3, .ref o)]) (by decide) rfl ?_
      refine V_iconst hC dL_blast_15 (v := 1) (by decide) ?_
      exact V_iretA hC hQ hr (by decide) (by decide) dL_blast_16 (Or.inl ⟨1, Or.inl ⟨rfl, hx⟩, rfl, rfl⟩)
    · refine ⟨17, HOK_of hC hN hT [(0, 10, 13, 21)] [(0, 10, 21, 15)] (0, 10, 17, 13) rfl (List.forall_mem_cons.mpr ⟨⟨by decide, _, q732, by decide +kernel⟩, fun _ h9 => absurd h9 List.not_mem_nil⟩) (by decide) (by decide) q718 soft_cA rfl, fun q => ?_⟩
      refine V_swap ?_
      refine V_astore hC dL_blast_17 (L' := [(4, .ref q), (0, .ref (X 0)), (1, .int b), (2, .int x), (3, .ref o)]) (by decide) rfl ?_
      refine V_iconst hC dL_blast_19 (v := 2) (by decide) ?_
      exact V_iretA hC hQ hr (by decide) (by decide) dL_blast_20 (Or.inl ⟨2, Or.inr (Or.inl ⟨rfl, hx⟩), rfl, rfl⟩)
    · refine ⟨21, HOK_of hC hN hT [(0, 10, 13, 21), (0, 10, 17, 13)] [] (0, 10, 21, 15) rfl (List.forall_mem_cons.mpr ⟨⟨by decide, _, q732, by decide +kernel⟩, List.forall_mem_cons.mpr ⟨⟨by decide, _, q718, by decide +kernel⟩, fun _ h9 => absurd h9 List.not_mem_nil⟩⟩) (by decide) (by decide) q719 soft_cT rfl, fun q => ?_⟩
      refine V_swap ?_
      refine V_astore hC dL_blast_21 (L' := [(4, .ref q), (0, .ref (X 0)), (1, .int b), (2, .int x), (3, .ref o)]) (by decide) rfl ?_
      refine V_iconst hC dL_blast_23 (v := 3) (by decide) ?_
      exact V_iretA hC hQ hr (by decide) (by decide) dL_blast_24 (Or.inl ⟨3, Or.inr (Or.inr (⟨rfl, hx⟩)), rfl, rfl⟩)
  · refine V_swap ?_
    refine V_i2l hC dL_blast_8 ?_
    refine V_last hC dL_blast_9 0 0 rfl rfl (vin (by decide)) (z := 0) (by decide) (ps' := [(o, .inl (G.2.1 2, 1, .inr (.inl (vp_updL of 0 rv.toInt64))))] :: u) (rfl) ?_
    refine V_goto hC dL_blast_10 (tgt := 25) (by decide) ?_
    refine V_iconst hC dL_blast_25 (v := 0) (by decide) ?_
    exact V_iretA hC hQ hr (by decide) (by decide) dL_blast_26 (Or.inr ⟨rv, u, hp, rfl, rfl⟩)
set_option maxHeartbeats 4000000 in
set_option maxRecDepth 100000 in
/-- a helper of the law -/
theorem h_charge (l : Launch) (hl0 : l.stackTraces = false) (G : VG) (X : Nat → Nat) (nb nl : Nat) (du mo cl : Int32) (B : Nat → Nat → Nat) (bz : Nat → BV) (n : Nat) (f g h : Nat → Int32) (cm : Nat → Int32) (W : Nat → Nat → Nat) (O : Nat → Nat) (S : KS) (x a b d : Int32) (o : Nat) (of : Nat → Int64) (hnb : nb ≤ 6) (hn : n ≤ 8) (hq3 : S.2.1 ≤ 3) (hf : ∀ j, j < n → ∃ v : Nat, v < nb ∧ f j = nI v) : Hi l G yL_charge cL_charge 7 [(0, 14, 17, 13), (0, 14, 21, 15)] 8 129 5 30 [.ref (X 0), .int x, .int a, .int b, .int d, .ref o] [[(o, .inl (G.2.1 2, 1, .inr (.inl (of))))], [(X 0, .inr (9, [.ref (X 1), .int (nI nb), .ref (X 2), .ref (X 6), .ref (X 8), .ref (X 10), .ref (X 14), .ref (X 18), .int (nI nl), .int du, .ref (X 19), .int mo, .ref (X 20), .int cl]))], [(X 1, .inl (G.2.1 3, 6, .inr (.inr (.inr (.inr (refA 6 B))))))], famW 6 (fun ι => bkP G (B ι) (bz ι)), [(X 2, .inr (6, [.int (nI n), .ref (X 3), .ref (X 4), .ref (X 5)]))], [(X 3, .inl (G.2.1 0, 8, .inl f))], [(X 4, .inl (G.2.1 0, 8, .inl g))], [(X 5, .inl (G.2.1 0, 8, .inl h))], [(X 6, .inr (5, [.ref (X 7)]))], [(X 7, .inl (G.2.1 0, 4, .inl cm))], [(X 10, .inr (3, [.ref (X 11), .ref (X 12), .ref (X 13), .int (nI S.2.1), .ref (O 0), .int (S.1 0), .int (S.1 1), .int (S.1 2), .int (S.1 3), .int (S.1 4), .int (S.1 5), .int (S.1 6)]))], [(X 13, .inl (G.2.1 4, 3, .inr (.inr (.inr (.inr (refA 3 W))))))], famW 3 (fun ι => chP G (W ι) (S.2.2.2.1 ι))] (fun r u => (∃ tt : Int32, ((tt = 1 ∧ ¬ chOk x a b d) ∨ (tt = 2 ∧ chOk x a b d ∧ (sm g n < x ∨ S.2.1 = 3))) ∧ r = tt ∧ u = [[(o, .inl (G.2.1 2, 1, .inr (.inl (of))))], [(X 0, .inr (9, [.ref (X 1), .int (nI nb), .ref (X 2), .ref (X 6), .ref (X 8), .ref (X 10), .ref (X 14), .ref (X 18), .int (nI nl), .int du, .ref (X 19), .int mo, .ref (X 20), .int cl]))], [(X 1, .inl (G.2.1 3, 6, .inr (.inr (.inr (.inr (refA 6 B))))))], famW 6 (fun ι => bkP G (B ι) (bz ι)), [(X 2, .inr (6, [.int (nI n), .ref (X 3), .ref (X 4), .ref (X 5)]))], [(X 3, .inl (G.2.1 0, 8, .inl f))], [(X 4, .inl (G.2.1 0, 8, .inl g))], [(X 5, .inl (G.2.1 0, 8, .inl h))], [(X 6, .inr (5, [.ref (X 7)]))], [(X 7, .inl (G.2.1 0, 4, .inl cm))], [(X 10, .inr (3, [.ref (X 11), .ref (X 12), .ref (X 13), .int (nI S.2.1), .ref (O 0), .int (S.1 0), .int (S.1 1), .int (S.1 2), .int (S.1 3), .int (S.1 4), .int (S.1 5), .int (S.1 6)]))], [(X 13, .inl (G.2.1 4, 3, .inr (.inr (.inr (.inr (refA 3 W))))))], famW 3 (fun ι => chP G (W ι) (S.2.2.2.1 ι))]) ∨ (∃ (rv : Int32) (v : List va_W), (fun r u => ∃ c : Nat, c ≤ 9 ∧ x = nI c ∧ chOk x a b d ∧ ¬ sm g n < nI c ∧ S.2.1 < 3 ∧ r = mxSat (chBegin (S.2.2.2.1 S.2.1) (cgF bz f g h cm n c a b d)).2.1 ∧ u = [[(X 0, .inr (9, [.ref (X 1), .int (nI nb), .ref (X 2), .ref (X 6), .ref (X 8), .ref (X 10), .ref (X 14), .ref (X 18), .int (nI nl), .int du, .ref (X 19), .int mo, .ref (X 20), .int cl]))], [(X 1, .inl (G.2.1 3, 6, .inr (.inr (.inr (.inr (refA 6 B))))))], famW 6 (fun ι => bkP G (B ι) (bz ι)), [(X 2, .inr (6, [.int (nI ((cgT f g h n c (S.2.2.2.1 S.2.1) (cgF bz f g h cm n c a b d)).1)), .ref (X 3), .ref (X 4), .ref (X 5)]))], [(X 3, .inl (G.2.1 0, 8, .inl ((cgT f g h n c (S.2.2.2.1 S.2.1) (cgF bz f g h cm n c a b d)).2.1)))], [(X 4, .inl (G.2.1 0, 8, .inl ((cgT f g h n c (S.2.2.2.1 S.2.1) (cgF bz f g h cm n c a b d)).2.2.1)))], [(X 5, .inl (G.2.1 0, 8, .inl (soAll g h n c)))], [(X 6, .inr (5, [.ref (X 7)]))], [(X 7, .inl (G.2.1 0, 4, .inl (cgF bz f g h cm n c a b d)))], [(X 10, .inr (3, [.ref (X 11), .ref (X 12), .ref (X 13), .int (nI (S.2.1 + 1)), .ref (O 0), .int (S.1 0), .int (S.1 1), .int (S.1 2), .int (S.1 3), .int (S.1 4), .int (S.1 5), .int (S.1 6)]))], [(X 13, .inl (G.2.1 4, 3, .inr (.inr (.inr (.inr (refA 3 W))))))], famW 3 (fun ι => chP G (W ι) ((va_up S.2.2.2.1 S.2.1 (cgV f g h n c (S.2.2.2.1 S.2.1) (cgF bz f g h cm n c a b d))) ι))]) rv v ∧ r = 0 ∧ u = [(o, .inl (G.2.1 2, 1, .inr (.inl (vp_updL of 0 rv.toInt64))))] :: v)) := by
  refine Hi_of (by decide) (Nat.le_of_ble_eq_true rfl) (fun pP eE sS mM aA bB tT cC AA QQ hC hN hT hr hQ => ?_)
  refine V_aload hC dL_charge_0 5 rfl ?_
  refine V_iconst hC dL_charge_2 (v := 0) (by decide) ?_
  refine V_aload_n hC dL_charge_3 0 rfl ?_
  refine V_iload_n hC dL_charge_4 1 rfl ?_
  refine V_iload_n hC dL_charge_5 2 rfl ?_
  refine V_iload_n hC dL_charge_6 3 rfl ?_
  refine V_iload hC dL_charge_7 4 rfl ?_
  refine V_xcallV hC [.int x, .int a, .int b, .int d] (c_X8_charge l hl0 G X nb nl du mo cl B bz n f g h cm W O S x a b d hnb hn hq3 hf) dL_charge_9 q758 q759 q760 q43 q761 ⟨by decide, by decide, rfl⟩ ⟨by decide, by decide⟩ (ci := 9) rfl (mem_at 1 0 rfl rfl) rfl (Nat.le_of_ble_eq_true rfl) ⟨by decide, by decide⟩ (is := [1, 2, 3, 4, 5, 6, 7, 8, 9, 10, 11, 12]) rfl (by decide) [0] (rs := [[(o, .inl (G.2.1 2, 1, .inr (.inl (of))))]]) rfl (by decide) (by decide) (fun E hE => ?_) (fun rv u hp => ?_)
  · rcases hE with ⟨rfl, hx⟩ | ⟨rfl, hx⟩
    · refine ⟨17, HOK_of hC hN hT [] [(0, 14, 21, 15)] (0, 14, 17, 13) rfl (fun _ h9 => absurd h9 List.not_mem_nil) (by decide) (by decide) q718 soft_cA rfl, fun q => ?_⟩
      refine V_swap ?_
      refine V_astore hC dL_charge_17 (L' := [(6, .ref q), (0, .ref (X 0)), (1, .int x), (2, .int a), (3, .int b), (4, .int d), (5, .ref o)]) (by decide) rfl ?_
      refine V_iconst hC dL_charge_19 (v := 1) (by decide) ?_
      exact V_iretA hC hQ hr (by decide) (by decide) dL_charge_20 (Or.inl ⟨1, Or.inl ⟨rfl, hx⟩, rfl, rfl⟩)
    · refine ⟨21, HOK_of hC hN hT [(0, 14, 17, 13)] [] (0, 14, 21, 15) rfl (List.forall_mem_cons.mpr ⟨⟨by decide, _, q718, by decide +kernel⟩, fun _ h9 => absurd h9 List.not_mem_nil⟩) (by decide) (by decide) q719 soft_cT rfl, fun q => ?_⟩
      refine V_swap ?_
      refine V_astore hC dL_charge_21 (L' := [(6, .ref q), (0, .ref (X 0)), (1, .int x), (2, .int a), (3, .int b), (4, .int d), (5, .ref o)]) (by decide) rfl ?_
      refine V_iconst hC dL_charge_23 (v := 2) (by decide) ?_
      exact V_iretA hC hQ hr (by decide) (by decide) dL_charge_24 (Or.inl ⟨2, Or.inr (⟨rfl, hx⟩), rfl, rfl⟩)
  · refine V_swap ?_
    refine V_i2l hC dL_charge_12 ?_
    refine V_last hC dL_charge_13 0 0 rfl rfl (vin (by decide)) (z := 0) (by decide) (ps' := [(o, .inl (G.2.1 2, 1, .inr (.inl (vp_updL of 0 rv.toInt64))))] :: u) (rfl) ?_
    refine V_goto hC dL_charge_14 (tgt := 25) (by decide) ?_
    refine V_iconst hC dL_charge_25 (v := 0) (by decide) ?_
    exact V_iretA hC hQ hr (by decide) (by decide) dL_charge_26 (Or.inr ⟨rv, u, hp, rfl, rfl⟩)
set_option maxHeartbeats 4000000 in
set_option maxRecDepth 100000 in
/-- a helper of the law -/
theorem h_flame (l : Launch) (hl0 : l.stackTraces = false) (G : VG) (X : Nat → Nat) (nb nl : Nat) (du mo cl : Int32) (O : Nat → Nat) (S : KS) (x : Int32) (o : Nat) (of : Nat → Int64)  : Hi l G yL_flame cL_flame 4 [(0, 9, 12, 13)] 8 126 1 6 [.ref (X 0), .int x, .ref o] [[(o, .inl (G.2.1 2, 1, .inr (.inl (of))))], [(X 0, .inr (9, [.ref (X 1), .int (nI nb), .ref (X 2), .ref (X 6), .ref (X 8), .ref (X 10), .ref (X 14), .ref (X 18), .int (nI nl), .int du, .ref (X 19), .int mo, .ref (X 20), .int cl]))], [(X 10, .inr (3, [.ref (X 11), .ref (X 12), .ref (X 13), .int (nI S.2.1), .ref (O 0), .int (S.1 0), .int (S.1 1), .int (S.1 2), .int (S.1 3), .int (S.1 4), .int (S.1 5), .int (S.1 6)]))]] (fun r u => (∃ tt : Int32, ((tt = 1 ∧ ¬ inR 0 9 x)) ∧ r = tt ∧ u = [[(o, .inl (G.2.1 2, 1, .inr (.inl (of))))], [(X 0, .inr (9, [.ref (X 1), .int (nI nb), .ref (X 2), .ref (X 6), .ref (X 8), .ref (X 10), .ref (X 14), .ref (X 18), .int (nI nl), .int du, .ref (X 19), .int mo, .ref (X 20), .int cl]))], [(X 10, .inr (3, [.ref (X 11), .ref (X 12), .ref (X 13), .int (nI S.2.1), .ref (O 0), .int (S.1 0), .int (S.1 1), .int (S.1 2), .int (S.1 3), .int (S.1 4), .int (S.1 5), .int (S.1 6)]))]]) ∨ (∃ (rv : Int32) (v : List va_W), (fun r u => inR 0 9 x ∧ r = S.1 0 ∧ u = [[(X 0, .inr (9, [.ref (X 1), .int (nI nb), .ref (X 2), .ref (X 6), .ref (X 8), .ref (X 10), .ref (X 14), .ref (X 18), .int (nI nl), .int du, .ref (X 19), .int mo, .ref (X 20), .int cl]))], [(X 10, .inr (3, [.ref (X 11), .ref (X 12), .ref (X 13), .int (nI S.2.1), .ref (O 0), .int x, .int (S.1 1), .int (S.1 2), .int (S.1 3), .int (S.1 4), .int (S.1 5), .int (S.1 6)]))]]) rv v ∧ r = 0 ∧ u = [(o, .inl (G.2.1 2, 1, .inr (.inl (vp_updL of 0 rv.toInt64))))] :: v)) := by
  refine Hi_of (by decide) (Nat.le_of_ble_eq_true rfl) (fun pP eE sS mM aA bB tT cC AA QQ hC hN hT hr hQ => ?_)
  refine V_aload_n hC dL_flame_0 2 rfl ?_
  refine V_iconst hC dL_flame_1 (v := 0) (by decide) ?_
  refine V_aload_n hC dL_flame_2 0 rfl ?_
  refine V_iload_n hC dL_flame_3 1 rfl ?_
  refine V_xcallV hC [.int x] (c_X8_flame l hl0 G X nb nl du mo cl O S x ) dL_flame_4 q784 q785 q786 q43 q787 ⟨by decide, by decide, rfl⟩ ⟨by decide, by decide⟩ (ci := 9) rfl (mem_at 1 0 rfl rfl) rfl (Nat.le_of_ble_eq_true rfl) ⟨by decide, by decide⟩ (is := [1, 2]) rfl (by decide) [0] (rs := [[(o, .inl (G.2.1 2, 1, .inr (.inl (of))))]]) rfl (by decide) (by decide) (fun E hE => ?_) (fun rv u hp => ?_)
  · rcases hE with ⟨rfl, hx⟩
    · refine ⟨12, HOK_of hC hN hT [] [] (0, 9, 12, 13) rfl (fun _ h9 => absurd h9 List.not_mem_nil) (by decide) (by decide) q718 soft_cA rfl, fun q => ?_⟩
      refine V_swap ?_
      refine V_astore_n hC dL_flame_12 (L' := [(3, .ref q), (0, .ref (X 0)), (1, .int x), (2, .ref o)]) (by decide) rfl ?_
      refine V_iconst hC dL_flame_13 (v := 1) (by decide) ?_
      exact V_iretA hC hQ hr (by decide) (by decide) dL_flame_14 (Or.inl ⟨1, ⟨rfl, hx⟩, rfl, rfl⟩)
  · refine V_swap ?_
    refine V_i2l hC dL_flame_7 ?_
    refine V_last hC dL_flame_8 0 0 rfl rfl (vin (by decide)) (z := 0) (by decide) (ps' := [(o, .inl (G.2.1 2, 1, .inr (.inl (vp_updL of 0 rv.toInt64))))] :: u) (rfl) ?_
    refine V_goto hC dL_flame_9 (tgt := 15) (by decide) ?_
    refine V_iconst hC dL_flame_15 (v := 0) (by decide) ?_
    exact V_iretA hC hQ hr (by decide) (by decide) dL_flame_16 (Or.inr ⟨rv, u, hp, rfl, rfl⟩)
set_option maxHeartbeats 4000000 in
set_option maxRecDepth 100000 in
/-- a helper of the law -/
theorem h_coal (l : Launch) (hl0 : l.stackTraces = false) (G : VG) (X : Nat → Nat) (nb nl : Nat) (du mo cl : Int32) (O : Nat → Nat) (S : KS) (x : Int32) (o : Nat) (of : Nat → Int64)  : Hi l G yL_coal cL_coal 4 [(0, 9, 12, 13)] 8 125 1 6 [.ref (X 0), .int x, .ref o] [[(o, .inl (G.2.1 2, 1, .inr (.inl (of))))], [(X 0, .inr (9, [.ref (X 1), .int (nI nb), .ref (X 2), .ref (X 6), .ref (X 8), .ref (X 10), .ref (X 14), .ref (X 18), .int (nI nl), .int du, .ref (X 19), .int mo, .ref (X 20), .int cl]))], [(X 10, .inr (3, [.ref (X 11), .ref (X 12), .ref (X 13), .int (nI S.2.1), .ref (O 0), .int (S.1 0), .int (S.1 1), .int (S.1 2), .int (S.1 3), .int (S.1 4), .int (S.1 5), .int (S.1 6)]))]] (fun r u => (∃ tt : Int32, ((tt = 1 ∧ ¬ inR 1 (999 - S.1 1) x)) ∧ r = tt ∧ u = [[(o, .inl (G.2.1 2, 1, .inr (.inl (of))))], [(X 0, .inr (9, [.ref (X 1), .int (nI nb), .ref (X 2), .ref (X 6), .ref (X 8), .ref (X 10), .ref (X 14), .ref (X 18), .int (nI nl), .int du, .ref (X 19), .int mo, .ref (X 20), .int cl]))], [(X 10, .inr (3, [.ref (X 11), .ref (X 12), .ref (X 13), .int (nI S.2.1), .ref (O 0), .int (S.1 0), .int (S.1 1), .int (S.1 2), .int (S.1 3), .int (S.1 4), .int (S.1 5), .int (S.1 6)]))]]) ∨ (∃ (rv : Int32) (v : List va_W), (fun r u => inR 1 (999 - S.1 1) x ∧ r = S.1 1 + x ∧ u = [[(X 0, .inr (9, [.ref (X 1), .int (nI nb), .ref (X 2), .ref (X 6), .ref (X 8), .ref (X 10), .ref (X 14), .ref (X 18), .int (nI nl), .int du, .ref (X 19), .int mo, .ref (X 20), .int cl]))], [(X 10, .inr (3, [.ref (X 11), .ref (X 12), .ref (X 13), .int (nI S.2.1), .ref (O 0), .int (S.1 0), .int (S.1 1 + x), .int (S.1 2), .int (S.1 3), .int (S.1 4), .int (S.1 5), .int (S.1 6)]))]]) rv v ∧ r = 0 ∧ u = [(o, .inl (G.2.1 2, 1, .inr (.inl (vp_updL of 0 rv.toInt64))))] :: v)) := by
  refine Hi_of (by decide) (Nat.le_of_ble_eq_true rfl) (fun pP eE sS mM aA bB tT cC AA QQ hC hN hT hr hQ => ?_)
  refine V_aload_n hC dL_coal_0 2 rfl ?_
  refine V_iconst hC dL_coal_1 (v := 0) (by decide) ?_
  refine V_aload_n hC dL_coal_2 0 rfl ?_
  refine V_iload_n hC dL_coal_3 1 rfl ?_
  refine V_xcallV hC [.int x] (c_X8_coal l hl0 G X nb nl du mo cl O S x ) dL_coal_4 q791 q792 q793 q43 q794 ⟨by decide, by decide, rfl⟩ ⟨by decide, by decide⟩ (ci := 9) rfl (mem_at 1 0 rfl rfl) rfl (Nat.le_of_ble_eq_true rfl) ⟨by decide, by decide⟩ (is := [1, 2]) rfl (by decide) [0] (rs := [[(o, .inl (G.2.1 2, 1, .inr (.inl (of))))]]) rfl (by decide) (by decide) (fun E hE => ?_) (fun rv u hp => ?_)
  · rcases hE with ⟨rfl, hx⟩
    · refine ⟨12, HOK_of hC hN hT [] [] (0, 9, 12, 13) rfl (fun _ h9 => absurd h9 List.not_mem_nil) (by decide) (by decide) q718 soft_cA rfl, fun q => ?_⟩
      refine V_swap ?_
      refine V_astore_n hC dL_coal_12 (L' := [(3, .ref q), (0, .ref (X 0)), (1, .int x), (2, .ref o)]) (by decide) rfl ?_
      refine V_iconst hC dL_coal_13 (v := 1) (by decide) ?_
      exact V_iretA hC hQ hr (by decide) (by decide) dL_coal_14 (Or.inl ⟨1, ⟨rfl, hx⟩, rfl, rfl⟩)
  · refine V_swap ?_
    refine V_i2l hC dL_coal_7 ?_
    refine V_last hC dL_coal_8 0 0 rfl rfl (vin (by decide)) (z := 0) (by decide) (ps' := [(o, .inl (G.2.1 2, 1, .inr (.inl (vp_updL of 0 rv.toInt64))))] :: u) (rfl) ?_
    refine V_goto hC dL_coal_9 (tgt := 15) (by decide) ?_
    refine V_iconst hC dL_coal_15 (v := 0) (by decide) ?_
    exact V_iretA hC hQ hr (by decide) (by decide) dL_coal_16 (Or.inr ⟨rv, u, hp, rfl, rfl⟩)
set_option maxHeartbeats 4000000 in
set_option maxRecDepth 100000 in
/-- a helper of the law -/
theorem h_run (l : Launch) (hl0 : l.stackTraces = false) (G : VG) (X : Nat → Nat) (nb nl : Nat) (du mo cl : Int32) (T : Nat → Nat → Nat) (lz : Nat → LV) (C W : Nat → Nat → Nat) (O : Nat → Nat) (S : KS) (x : Int32) (o : Nat) (of : Nat → Int64) (hw : kwf S) (hnl : nl ≤ 12) : Hi l G yL_run cL_run 4 [(0, 9, 12, 13)] 8 127 1 6 [.ref (X 0), .int x, .ref o] [[(o, .inl (G.2.1 2, 1, .inr (.inl (of))))], [(X 0, .inr (9, [.ref (X 1), .int (nI nb), .ref (X 2), .ref (X 6), .ref (X 8), .ref (X 10), .ref (X 14), .ref (X 18), .int (nI nl), .int du, .ref (X 19), .int mo, .ref (X 20), .int cl]))], [(X 10, .inr (3, [.ref (X 11), .ref (X 12), .ref (X 13), .int (nI S.2.1), .ref (O 0), .int (S.1 0), .int (S.1 1), .int (S.1 2), .int (S.1 3), .int (S.1 4), .int (S.1 5), .int (S.1 6)]))], [(X 11, .inl (G.2.1 4, 5, .inr (.inr (.inr (.inr (refA 5 C))))))], [(X 12, .inl (G.2.1 0, 5, .inl S.2.2.2.2.2))], [(X 13, .inl (G.2.1 4, 3, .inr (.inr (.inr (.inr (refA 3 W))))))], famW 5 (fun ι => chP G (C ι) (S.2.2.1 ι)), famW 3 (fun ι => chP G (W ι) (S.2.2.2.1 ι)), chP G O S.2.2.2.2.1, [(X 18, .inl (G.2.1 5, 12, .inr (.inr (.inr (.inr (refA 12 T))))))], famW 12 (fun ι => ltP G (T ι) (lz ι))] (fun r u => (∃ tt : Int32, ((tt = 1 ∧ ¬ inR 1 30 x)) ∧ r = tt ∧ u = [[(o, .inl (G.2.1 2, 1, .inr (.inl (of))))], [(X 0, .inr (9, [.ref (X 1), .int (nI nb), .ref (X 2), .ref (X 6), .ref (X 8), .ref (X 10), .ref (X 14), .ref (X 18), .int (nI nl), .int du, .ref (X 19), .int mo, .ref (X 20), .int cl]))], [(X 10, .inr (3, [.ref (X 11), .ref (X 12), .ref (X 13), .int (nI S.2.1), .ref (O 0), .int (S.1 0), .int (S.1 1), .int (S.1 2), .int (S.1 3), .int (S.1 4), .int (S.1 5), .int (S.1 6)]))], [(X 11, .inl (G.2.1 4, 5, .inr (.inr (.inr (.inr (refA 5 C))))))], [(X 12, .inl (G.2.1 0, 5, .inl S.2.2.2.2.2))], [(X 13, .inl (G.2.1 4, 3, .inr (.inr (.inr (.inr (refA 3 W))))))], famW 5 (fun ι => chP G (C ι) (S.2.2.1 ι)), famW 3 (fun ι => chP G (W ι) (S.2.2.2.1 ι)), chP G O S.2.2.2.2.1, [(X 18, .inl (G.2.1 5, 12, .inr (.inr (.inr (.inr (refA 12 T))))))], famW 12 (fun ι => ltP G (T ι) (lz ι))]) ∨ (∃ (rv : Int32) (v : List va_W), (fun r u => ∃ k : Nat, 1 ≤ k ∧ k ≤ 30 ∧ x = nI k ∧ r = nI (rIt S nl lz du k).2.2.2 ∧ u = [[(X 0, .inr (9, [.ref (X 1), .int (nI nb), .ref (X 2), .ref (X 6), .ref (X 8), .ref (X 10), .ref (X 14), .ref (X 18), .int (nI (rIt S nl lz du k).1), .int ((rIt S nl lz du k).2.2.1), .ref (X 19), .int mo, .ref (X 20), .int cl]))], [(X 10, .inr (3, [.ref (X 11), .ref (X 12), .ref (X 13), .int (nI ((kIt k S).2.1)), .ref (((aIt k S (C, W, O)).2.2) 0), .int ((kIt k S).1 0), .int ((kIt k S).1 1), .int ((kIt k S).1 2), .int ((kIt k S).1 3), .int ((kIt k S).1 4), .int ((kIt k S).1 5), .int ((kIt k S).1 6)]))], [(X 11, .inl (G.2.1 4, 5, .inr (.inr (.inr (.inr (refA 5 ((aIt k S (C, W, O)).1)))))))], [(X 12, .inl (G.2.1 0, 5, .inl ((kIt k S).2.2.2.2.2)))], [(X 13, .inl (G.2.1 4, 3, .inr (.inr (.inr (.inr (refA 3 ((aIt k S (C, W, O)).2.1)))))))], famW 5 (fun ι => chP G (((aIt k S (C, W, O)).1) ι) ((kIt k S).2.2.1 ι)), famW 3 (fun ι => chP G (((aIt k S (C, W, O)).2.1) ι) ((kIt k S).2.2.2.1 ι)), chP G ((aIt k S (C, W, O)).2.2) (kIt k S).2.2.2.2.1, [(X 18, .inl (G.2.1 5, 12, .inr (.inr (.inr (.inr (refA 12 T))))))], famW 12 (fun ι => ltP G (T ι) (((rIt S nl lz du k).2.1) ι))]) rv v ∧ r = 0 ∧ u = [(o, .inl (G.2.1 2, 1, .inr (.inl (vp_updL of 0 rv.toInt64))))] :: v)) := by
  refine Hi_of (by decide) (Nat.le_of_ble_eq_true rfl) (fun pP eE sS mM aA bB tT cC AA QQ hC hN hT hr hQ => ?_)
  refine V_aload_n hC dL_run_0 2 rfl ?_
  refine V_iconst hC dL_run_1 (v := 0) (by decide) ?_
  refine V_aload_n hC dL_run_2 0 rfl ?_
  refine V_iload_n hC dL_run_3 1 rfl ?_
  refine V_xcallV hC [.int x] (c_X8_run l hl0 G X nb nl du mo cl T lz C W O S x hw hnl) dL_run_4 q798 q799 q800 q43 q801 ⟨by decide, by decide, rfl⟩ ⟨by decide, by decide⟩ (ci := 9) rfl (mem_at 1 0 rfl rfl) rfl (Nat.le_of_ble_eq_true rfl) ⟨by decide, by decide⟩ (is := [1, 2, 3, 4, 5, 6, 7, 8, 9, 10]) rfl (by decide) [0] (rs := [[(o, .inl (G.2.1 2, 1, .inr (.inl (of))))]]) rfl (by decide) (by decide) (fun E hE => ?_) (fun rv u hp => ?_)
  · rcases hE with ⟨rfl, hx⟩
    · refine ⟨12, HOK_of hC hN hT [] [] (0, 9, 12, 13) rfl (fun _ h9 => absurd h9 List.not_mem_nil) (by decide) (by decide) q718 soft_cA rfl, fun q => ?_⟩
      refine V_swap ?_
      refine V_astore_n hC dL_run_12 (L' := [(3, .ref q), (0, .ref (X 0)), (1, .int x), (2, .ref o)]) (by decide) rfl ?_
      refine V_iconst hC dL_run_13 (v := 1) (by decide) ?_
      exact V_iretA hC hQ hr (by decide) (by decide) dL_run_14 (Or.inl ⟨1, ⟨rfl, hx⟩, rfl, rfl⟩)
  · refine V_swap ?_
    refine V_i2l hC dL_run_7 ?_
    refine V_last hC dL_run_8 0 0 rfl rfl (vin (by decide)) (z := 0) (by decide) (ps' := [(o, .inl (G.2.1 2, 1, .inr (.inl (vp_updL of 0 rv.toInt64))))] :: u) (rfl) ?_
    refine V_goto hC dL_run_9 (tgt := 15) (by decide) ?_
    refine V_iconst hC dL_run_15 (v := 0) (by decide) ?_
    exact V_iretA hC hQ hr (by decide) (by decide) dL_run_16 (Or.inr ⟨rv, u, hp, rfl, rfl⟩)
set_option maxHeartbeats 4000000 in
set_option maxRecDepth 100000 in
/-- a helper of the law -/
theorem h_grind (l : Launch) (hl0 : l.stackTraces = false) (G : VG) (X : Nat → Nat) (nb nl : Nat) (du mo cl : Int32) (T : Nat → Nat → Nat) (lz : Nat → LV) (Z : Nat → Nat → Nat) (sz : Nat → SV) (b x y s : Int32) (o : Nat) (of : Nat → Int64) (hnl : nl ≤ 12) (hz : ∀ i, i < nl → ltGr ((lz i).1 2) = 0 → ∀ j, j < 2 → (sz j).1 < 12) : Hi l G yL_grind cL_grind 7 [(0, 14, 17, 21), (0, 14, 21, 13), (0, 14, 25, 15)] 8 128 5 30 [.ref (X 0), .int b, .int x, .int y, .int s, .ref o] [[(o, .inl (G.2.1 2, 1, .inr (.inl (of))))], [(X 0, .inr (9, [.ref (X 1), .int (nI nb), .ref (X 2), .ref (X 6), .ref (X 8), .ref (X 10), .ref (X 14), .ref (X 18), .int (nI nl), .int du, .ref (X 19), .int mo, .ref (X 20), .int cl]))], [(X 18, .inl (G.2.1 5, 12, .inr (.inr (.inr (.inr (refA 12 T))))))], famW 12 (fun ι => ltP G (T ι) (lz ι)), [(X 19, .inl (G.2.1 6, 2, .inr (.inr (.inr (.inr (refA 2 Z))))))], famW 2 (fun ι => slP G (Z ι) (sz ι))] (fun r u => (∃ tt : Int32, ((tt = 1 ∧ ixB b (nI nl) = 0) ∨ (tt = 1 ∧ ixB b (nI nl) = 1 ∧ ixB s 2 = 0) ∨ (tt = 2 ∧ ixB b (nI nl) = 1 ∧ ixB s 2 = 1 ∧ ¬ (inR 1 9 x ∧ inR 0 9 y)) ∨ (tt = 3 ∧ ixB b (nI nl) = 1 ∧ ixB s 2 = 1 ∧ (inR 1 9 x ∧ inR 0 9 y) ∧ ¬ ltGr ((lz b.toNatClampNeg).1 2) = 0)) ∧ r = tt ∧ u = [[(o, .inl (G.2.1 2, 1, .inr (.inl (of))))], [(X 0, .inr (9, [.ref (X 1), .int (nI nb), .ref (X 2), .ref (X 6), .ref (X 8), .ref (X 10), .ref (X 14), .ref (X 18), .int (nI nl), .int du, .ref (X 19), .int mo, .ref (X 20), .int cl]))], [(X 18, .inl (G.2.1 5, 12, .inr (.inr (.inr (.inr (refA 12 T))))))], famW 12 (fun ι => ltP G (T ι) (lz ι)), [(X 19, .inl (G.2.1 6, 2, .inr (.inr (.inr (.inr (refA 2 Z))))))], famW 2 (fun ι => slP G (Z ι) (sz ι))]) ∨ (∃ (rv : Int32) (v : List va_W), (fun r u => ∃ i j : Nat, i < nl ∧ b = nI i ∧ j < 2 ∧ s = nI j ∧ (inR 1 9 x ∧ inR 0 9 y) ∧ ltGr ((lz i).1 2) = 0 ∧ r = mx 1 (mxSum (lz i).2.2.2.1) ∧ u = [[(X 0, .inr (9, [.ref (X 1), .int (nI nb), .ref (X 2), .ref (X 6), .ref (X 8), .ref (X 10), .ref (X 14), .ref (X 18), .int (nI nl), .int du, .ref (X 19), .int mo, .ref (X 20), .int cl]))], [(X 18, .inl (G.2.1 5, 12, .inr (.inr (.inr (.inr (refA 12 T))))))], famW 12 (fun ι => ltP G (T ι) ((va_up lz i (ltGround x y (nI j) (lz i))) ι)), [(X 19, .inl (G.2.1 6, 2, .inr (.inr (.inr (.inr (refA 2 Z))))))], famW 2 (fun ι => slP G (Z ι) ((va_up sz j ((sz j).1 + 1, (sz j).2.1, upd (sz j).2.2 (sz j).1 (nI i))) ι))]) rv v ∧ r = 0 ∧ u = [(o, .inl (G.2.1 2, 1, .inr (.inl (vp_updL of 0 rv.toInt64))))] :: v)) := by
  refine Hi_of (by decide) (Nat.le_of_ble_eq_true rfl) (fun pP eE sS mM aA bB tT cC AA QQ hC hN hT hr hQ => ?_)
  refine V_aload hC dL_grind_0 5 rfl ?_
  refine V_iconst hC dL_grind_2 (v := 0) (by decide) ?_
  refine V_aload_n hC dL_grind_3 0 rfl ?_
  refine V_iload_n hC dL_grind_4 1 rfl ?_
  refine V_iload_n hC dL_grind_5 2 rfl ?_
  refine V_iload_n hC dL_grind_6 3 rfl ?_
  refine V_iload hC dL_grind_7 4 rfl ?_
  refine V_xcallV hC [.int b, .int x, .int y, .int s] (c_X8y_grind l hl0 G X nb nl du mo cl T lz Z sz b x y s hnl hz) dL_grind_9 q810 q811 q812 q43 q813 ⟨by decide, by decide, rfl⟩ ⟨by decide, by decide⟩ (ci := 9) rfl (mem_at 1 0 rfl rfl) rfl (Nat.le_of_ble_eq_true rfl) ⟨by decide, by decide⟩ (is := [1, 2, 3, 4, 5]) rfl (by decide) [0] (rs := [[(o, .inl (G.2.1 2, 1, .inr (.inl (of))))]]) rfl (by decide) (by decide) (fun E hE => ?_) (fun rv u hp => ?_)
  · rcases hE with ⟨rfl, hx⟩ | ⟨rfl, hx⟩ | ⟨rfl, hx⟩ | ⟨rfl, hx⟩
    · refine ⟨17, HOK_of hC hN hT [] [(0, 14, 21, 13), (0, 14, 25, 15)] (0, 14, 17, 21) rfl (fun _ h9 => absurd h9 List.not_mem_nil) (by decide) (by decide) q732 soft_cX rfl, fun q => ?_⟩
      refine V_swap ?_
      refine V_astore hC dL_grind_17 (L' := [(6, .ref q), (0, .ref (X 0)), (1, .int b), (2, .int x), (3, .int y), (4, .int s), (5, .ref o)]) (by decide) rfl ?_
      refine V_iconst hC dL_grind_19 (v := 1) (by decide) ?_
      exact V_iretA hC hQ hr (by decide) (by decide) dL_grind_20 (Or.inl ⟨1, Or.inl ⟨rfl, hx⟩, rfl, rfl⟩)
    · refine ⟨17, HOK_of hC hN hT [] [(0, 14, 21, 13), (0, 14, 25, 15)] (0, 14, 17, 21) rfl (fun _ h9 => absurd h9 List.not_mem_nil) (by decide) (by decide) q732 soft_cX rfl, fun q => ?_⟩
      refine V_swap ?_
      refine V_astore hC dL_grind_17 (L' := [(6, .ref q), (0, .ref (X 0)), (1, .int b), (2, .int x), (3, .int y), (4, .int s), (5, .ref o)]) (by decide) rfl ?_
      refine V_iconst hC dL_grind_19 (v := 1) (by decide) ?_
      exact V_iretA hC hQ hr (by decide) (by decide) dL_grind_20 (Or.inl ⟨1, Or.inr (Or.inl ⟨rfl, hx⟩), rfl, rfl⟩)
    · refine ⟨21, HOK_of hC hN hT [(0, 14, 17, 21)] [(0, 14, 25, 15)] (0, 14, 21, 13) rfl (List.forall_mem_cons.mpr ⟨⟨by decide, _, q732, by decide +kernel⟩, fun _ h9 => absurd h9 List.not_mem_nil⟩) (by decide) (by decide) q718 soft_cA rfl, fun q => ?_⟩
      refine V_swap ?_
      refine V_astore hC dL_grind_21 (L' := [(6, .ref q), (0, .ref (X 0)), (1, .int b), (2, .int x), (3, .int y), (4, .int s), (5, .ref o)]) (by decide) rfl ?_
      refine V_iconst hC dL_grind_23 (v := 2) (by decide) ?_
      exact V_iretA hC hQ hr (by decide) (by decide) dL_grind_24 (Or.inl ⟨2, Or.inr (Or.inr (Or.inl ⟨rfl, hx⟩)), rfl, rfl⟩)
    · refine ⟨25, HOK_of hC hN hT [(0, 14, 17, 21), (0, 14, 21, 13)] [] (0, 14, 25, 15) rfl (List.forall_mem_cons.mpr ⟨⟨by decide, _, q732, by decide +kernel⟩, List.forall_mem_cons.mpr ⟨⟨by decide, _, q718, by decide +kernel⟩, fun _ h9 => absurd h9 List.not_mem_nil⟩⟩) (by decide) (by decide) q719 soft_cT rfl, fun q => ?_⟩
      refine V_swap ?_
      refine V_astore hC dL_grind_25 (L' := [(6, .ref q), (0, .ref (X 0)), (1, .int b), (2, .int x), (3, .int y), (4, .int s), (5, .ref o)]) (by decide) rfl ?_
      refine V_iconst hC dL_grind_27 (v := 3) (by decide) ?_
      exact V_iretA hC hQ hr (by decide) (by decide) dL_grind_28 (Or.inl ⟨3, Or.inr (Or.inr (Or.inr (⟨rfl, hx⟩))), rfl, rfl⟩)
  · refine V_swap ?_
    refine V_i2l hC dL_grind_12 ?_
    refine V_last hC dL_grind_13 0 0 rfl rfl (vin (by decide)) (z := 0) (by decide) (ps' := [(o, .inl (G.2.1 2, 1, .inr (.inl (vp_updL of 0 rv.toInt64))))] :: u) (rfl) ?_
    refine V_goto hC dL_grind_14 (tgt := 29) (by decide) ?_
    refine V_iconst hC dL_grind_29 (v := 0) (by decide) ?_
    exact V_iretA hC hQ hr (by decide) (by decide) dL_grind_30 (Or.inr ⟨rv, u, hp, rfl, rfl⟩)
set_option maxHeartbeats 4000000 in
set_option maxRecDepth 100000 in
/-- a helper of the law -/
theorem h_sell (l : Launch) (hl0 : l.stackTraces = false) (G : VG) (X : Nat → Nat) (nb nl : Nat) (du mo cl : Int32) (T : Nat → Nat → Nat) (lz : Nat → LV) (Z : Nat → Nat → Nat) (sz : Nat → SV) (b x : Int32) (o : Nat) (of : Nat → Int64) (hnl : nl ≤ 12) (hz : ∀ j, j < 2 → (sz j).1 ≤ 12) : Hi l G yL_sell cL_sell 5 [(0, 10, 13, 21), (0, 10, 17, 13), (0, 10, 21, 15)] 8 127 3 18 [.ref (X 0), .int b, .int x, .ref o] [[(o, .inl (G.2.1 2, 1, .inr (.inl (of))))], [(X 0, .inr (9, [.ref (X 1), .int (nI nb), .ref (X 2), .ref (X 6), .ref (X 8), .ref (X 10), .ref (X 14), .ref (X 18), .int (nI nl), .int du, .ref (X 19), .int mo, .ref (X 20), .int cl]))], [(X 18, .inl (G.2.1 5, 12, .inr (.inr (.inr (.inr (refA 12 T))))))], famW 12 (fun ι => ltP G (T ι) (lz ι)), [(X 19, .inl (G.2.1 6, 2, .inr (.inr (.inr (.inr (refA 2 Z))))))], famW 2 (fun ι => slP G (Z ι) (sz ι))] (fun r u => (∃ tt : Int32, ((tt = 1 ∧ ixB b 2 = 0) ∨ (tt = 2 ∧ ixB b 2 = 1 ∧ ¬ inR 1 999 x) ∨ (tt = 3 ∧ ixB b 2 = 1 ∧ inR 1 999 x ∧ ¬ (sz b.toNatClampNeg).2.1 = 0)) ∧ r = tt ∧ u = [[(o, .inl (G.2.1 2, 1, .inr (.inl (of))))], [(X 0, .inr (9, [.ref (X 1), .int (nI nb), .ref (X 2), .ref (X 6), .ref (X 8), .ref (X 10), .ref (X 14), .ref (X 18), .int (nI nl), .int du, .ref (X 19), .int mo, .ref (X 20), .int cl]))], [(X 18, .inl (G.2.1 5, 12, .inr (.inr (.inr (.inr (refA 12 T))))))], famW 12 (fun ι => ltP G (T ι) (lz ι)), [(X 19, .inl (G.2.1 6, 2, .inr (.inr (.inr (.inr (refA 2 Z))))))], famW 2 (fun ι => slP G (Z ι) (sz ι))]) ∨ (∃ (rv : Int32) (v : List va_W), (fun r u => ∃ i : Nat, i < 2 ∧ b = nI i ∧ inR 1 999 x ∧ (sz i).2.1 = 0 ∧ ∃ w : SK, w = tkI nl 12 (x, 0, sz i, lz) ∧ r = w.2.1 ∧ u = [[(X 0, .inr (9, [.ref (X 1), .int (nI nb), .ref (X 2), .ref (X 6), .ref (X 8), .ref (X 10), .ref (X 14), .ref (X 18), .int (nI nl), .int du, .ref (X 19), .int (mo + w.2.1), .ref (X 20), .int cl]))], [(X 18, .inl (G.2.1 5, 12, .inr (.inr (.inr (.inr (refA 12 T))))))], famW 12 (fun ι => ltP G (T ι) (w.2.2.2 ι)), [(X 19, .inl (G.2.1 6, 2, .inr (.inr (.inr (.inr (refA 2 Z))))))], famW 2 (fun ι => slP G (Z ι) ((va_up sz i w.2.2.1) ι))]) rv v ∧ r = 0 ∧ u = [(o, .inl (G.2.1 2, 1, .inr (.inl (vp_updL of 0 rv.toInt64))))] :: v)) := by
  refine Hi_of (by decide) (Nat.le_of_ble_eq_true rfl) (fun pP eE sS mM aA bB tT cC AA QQ hC hN hT hr hQ => ?_)
  refine V_aload_n hC dL_sell_0 3 rfl ?_
  refine V_iconst hC dL_sell_1 (v := 0) (by decide) ?_
  refine V_aload_n hC dL_sell_2 0 rfl ?_
  refine V_iload_n hC dL_sell_3 1 rfl ?_
  refine V_iload_n hC dL_sell_4 2 rfl ?_
  refine V_xcallV hC [.int b, .int x] (c_X8_sell l hl0 G X nb nl du mo cl T lz Z sz b x hnl hz) dL_sell_5 q835 q836 q837 q43 q838 ⟨by decide, by decide, rfl⟩ ⟨by decide, by decide⟩ (ci := 9) rfl (mem_at 1 0 rfl rfl) rfl (Nat.le_of_ble_eq_true rfl) ⟨by decide, by decide⟩ (is := [1, 2, 3, 4, 5]) rfl (by decide) [0] (rs := [[(o, .inl (G.2.1 2, 1, .inr (.inl (of))))]]) rfl (by decide) (by decide) (fun E hE => ?_) (fun rv u hp => ?_)
  · rcases hE with ⟨rfl, hx⟩ | ⟨rfl, hx⟩ | ⟨rfl, hx⟩
    · refine ⟨13, HOK_of hC hN hT [] [(0, 10, 17, 13), (0, 10, 21, 15)] (0, 10, 13, 21) rfl (fun _ h9 => absurd h9 List.not_mem_nil) (by decide) (by decide) q732 soft_cX rfl, fun q => ?_⟩
      refine V_swap ?_
      refine V_astore hC dL_sell_13 (L' := [(4, .ref q), (0, .ref (X 0)), (1, .int b), (2, .int x), (3, .ref o)]) (by decide) rfl ?_
      refine V_iconst hC dL_sell_15 (v := 1) (by decide) ?_
      exact V_iretA hC hQ hr (by decide) (by decide) dL_sell_16 (Or.inl ⟨1, Or.inl ⟨rfl, hx⟩, rfl, rfl⟩)
    · refine ⟨17, HOK_of hC hN hT [(0, 10, 13, 21)] [(0, 10, 21, 15)] (0, 10, 17, 13) rfl (List.forall_mem_cons.mpr ⟨⟨by decide, _, q732, by decide +kernel⟩, fun _ h9 => absurd h9 List.not_mem_nil⟩) (by decide) (by decide) q718 soft_cA rfl, fun q => ?_⟩
      refine V_swap ?_
      refine V_astore hC dL_sell_17 (L' := [(4, .ref q), (0, .ref (X 0)), (1, .int b), (2, .int x), (3, .ref o)]) (by decide) rfl ?_
      refine V_iconst hC dL_sell_19 (v := 2) (by decide) ?_
      exact V_iretA hC hQ hr (by decide) (by decide) dL_sell_20 (Or.inl ⟨2, Or.inr (Or.inl ⟨rfl, hx⟩), rfl, rfl⟩)
    · refine ⟨21, HOK_of hC hN hT [(0, 10, 13, 21), (0, 10, 17, 13)] [] (0, 10, 21, 15) rfl (List.forall_mem_cons.mpr ⟨⟨by decide, _, q732, by decide +kernel⟩, List.forall_mem_cons.mpr ⟨⟨by decide, _, q718, by decide +kernel⟩, fun _ h9 => absurd h9 List.not_mem_nil⟩⟩) (by decide) (by decide) q719 soft_cT rfl, fun q => ?_⟩
      refine V_swap ?_
      refine V_astore hC dL_sell_21 (L' := [(4, .ref q), (0, .ref (X 0)), (1, .int b), (2, .int x), (3, .ref o)]) (by decide) rfl ?_
      refine V_iconst hC dL_sell_23 (v := 3) (by decide) ?_
      exact V_iretA hC hQ hr (by decide) (by decide) dL_sell_24 (Or.inl ⟨3, Or.inr (Or.inr (⟨rfl, hx⟩)), rfl, rfl⟩)
  · refine V_swap ?_
    refine V_i2l hC dL_sell_8 ?_
    refine V_last hC dL_sell_9 0 0 rfl rfl (vin (by decide)) (z := 0) (by decide) (ps' := [(o, .inl (G.2.1 2, 1, .inr (.inl (vp_updL of 0 rv.toInt64))))] :: u) (rfl) ?_
    refine V_goto hC dL_sell_10 (tgt := 25) (by decide) ?_
    refine V_iconst hC dL_sell_25 (v := 0) (by decide) ?_
    exact V_iretA hC hQ hr (by decide) (by decide) dL_sell_26 (Or.inr ⟨rv, u, hp, rfl, rfl⟩)
set_option maxHeartbeats 4000000 in
set_option maxRecDepth 100000 in
/-- a helper of the law -/
theorem h_open (l : Launch) (hl0 : l.stackTraces = false) (G : VG) (X : Nat → Nat) (nb nl : Nat) (du mo cl : Int32) (Z : Nat → Nat → Nat) (sz : Nat → SV) (b : Int32) (o : Nat) (of : Nat → Int64) (hsh : ∀ j, j < 2 → (sz j).2.1 = 0 ∨ (sz j).2.1 = 1) : Hi l G yL_open cL_open 4 [(0, 16, 19, 21)] 8 125 1 6 [.ref (X 0), .int b, .ref o] [[(o, .inl (G.2.1 2, 1, .inr (.inl (of))))], [(X 0, .inr (9, [.ref (X 1), .int (nI nb), .ref (X 2), .ref (X 6), .ref (X 8), .ref (X 10), .ref (X 14), .ref (X 18), .int (nI nl), .int du, .ref (X 19), .int mo, .ref (X 20), .int cl]))], [(X 19, .inl (G.2.1 6, 2, .inr (.inr (.inr (.inr (refA 2 Z))))))], famW 2 (fun ι => slP G (Z ι) (sz ι))] (fun r u => (∃ tt : Int32, ((tt = 1 ∧ ixB b 2 = 0)) ∧ r = tt ∧ u = [[(o, .inl (G.2.1 2, 1, .inr (.inl (of))))], [(X 0, .inr (9, [.ref (X 1), .int (nI nb), .ref (X 2), .ref (X 6), .ref (X 8), .ref (X 10), .ref (X 14), .ref (X 18), .int (nI nl), .int du, .ref (X 19), .int mo, .ref (X 20), .int cl]))], [(X 19, .inl (G.2.1 6, 2, .inr (.inr (.inr (.inr (refA 2 Z))))))], famW 2 (fun ι => slP G (Z ι) (sz ι))]) ∨ (∃ (rv : Int32) (v : List va_W), (fun r u => ∃ i : Nat, i < 2 ∧ b = nI i ∧ r = (sz i).2.1 ∧ u = [[(X 0, .inr (9, [.ref (X 1), .int (nI nb), .ref (X 2), .ref (X 6), .ref (X 8), .ref (X 10), .ref (X 14), .ref (X 18), .int (nI nl), .int du, .ref (X 19), .int mo, .ref (X 20), .int cl]))], [(X 19, .inl (G.2.1 6, 2, .inr (.inr (.inr (.inr (refA 2 Z))))))], famW 2 (fun ι => slP G (Z ι) ((va_up sz i ((sz i).1, 0, (sz i).2.2)) ι))]) rv v ∧ r = 0 ∧ u = [(o, .inl (G.2.1 2, 1, .inr (.inl (vp_updL of 0 rv.toInt64))))] :: v)) := by
  refine Hi_of (by decide) (Nat.le_of_ble_eq_true rfl) (fun pP eE sS mM aA bB tT cC AA QQ hC hN hT hr hQ => ?_)
  refine V_aload_n hC dL_open_0 2 rfl ?_
  refine V_iconst hC dL_open_1 (v := 0) (by decide) ?_
  refine V_aload_n hC dL_open_2 0 rfl ?_
  refine V_iload_n hC dL_open_3 1 rfl ?_
  refine V_xcallV hC [.int b] (c_X8_open l hl0 G X nb nl du mo cl Z sz b hsh) dL_open_4 q855 q856 q857 q43 q858 ⟨by decide, by decide, rfl⟩ ⟨by decide, by decide⟩ (ci := 9) rfl (mem_at 1 0 rfl rfl) rfl (Nat.le_of_ble_eq_true rfl) ⟨by decide, by decide⟩ (is := [1, 2, 3]) rfl (by decide) [0] (rs := [[(o, .inl (G.2.1 2, 1, .inr (.inl (of))))]]) rfl (by decide) (by decide) (fun E hE => ?_) (fun rv u hp => ?_)
  · rcases hE with ⟨rfl, hx⟩
    · refine ⟨19, HOK_of hC hN hT [] [] (0, 16, 19, 21) rfl (fun _ h9 => absurd h9 List.not_mem_nil) (by decide) (by decide) q732 soft_cX rfl, fun q => ?_⟩
      refine V_swap ?_
      refine V_astore_n hC dL_open_19 (L' := [(3, .ref q), (0, .ref (X 0)), (1, .int b), (2, .ref o)]) (by decide) rfl ?_
      refine V_iconst hC dL_open_20 (v := 1) (by decide) ?_
      exact V_iretA hC hQ hr (by decide) (by decide) dL_open_21 (Or.inl ⟨1, ⟨rfl, hx⟩, rfl, rfl⟩)
  · refine V_swap ?_
    obtain ⟨i9, hi9, _, hr9, _⟩ := id hp
    have h01 : rv = 0 ∨ rv = 1 := by rw [hr9]; exact hsh i9 hi9
    refine V_if_eq hC dL_open_7 (tgt := 14) (by decide) (fun h9 => ?_) (fun h9 => ?_)
    · refine V_lconst hC dL_open_14 (v := 0) (by decide) ?_
      refine V_last hC dL_open_15 0 0 rfl rfl (vin (by decide)) (z := 0) (by decide) (ps' := [(o, .inl (G.2.1 2, 1, .inr (.inl (vp_updL of 0 rv.toInt64))))] :: u) (by rw [h9]; rfl) ?_
      refine V_goto hC dL_open_16 (tgt := 22) (by decide) ?_
      refine V_iconst hC dL_open_22 (v := 0) (by decide) ?_
      exact V_iretA hC hQ hr (by decide) (by decide) dL_open_23 (Or.inr ⟨rv, u, hp, rfl, rfl⟩)
    · have h8 : rv = 1 := h01.resolve_left h9
      refine V_lconst hC dL_open_10 (v := 1) (by decide) ?_
      refine V_goto hC dL_open_11 (tgt := 15) (by decide) ?_
      refine V_last hC dL_open_15 0 0 rfl rfl (vin (by decide)) (z := 0) (by decide) (ps' := [(o, .inl (G.2.1 2, 1, .inr (.inl (vp_updL of 0 rv.toInt64))))] :: u) (by rw [h8]; rfl) ?_
      refine V_goto hC dL_open_16 (tgt := 22) (by decide) ?_
      refine V_iconst hC dL_open_22 (v := 0) (by decide) ?_
      exact V_iretA hC hQ hr (by decide) (by decide) dL_open_23 (Or.inr ⟨rv, u, hp, rfl, rfl⟩)
set_option maxHeartbeats 4000000 in
set_option maxRecDepth 100000 in
/-- a helper of the law -/
theorem h_cube (l : Launch) (hl0 : l.stackTraces = false) (G : VG) (X : Nat → Nat) (nb nl : Nat) (du mo cl : Int32) (T : Nat → Nat → Nat) (lz : Nat → LV) (Z : Nat → Nat → Nat) (sz : Nat → SV) (wn : Nat) (ws : Int32) (wf : Nat → Int32) (b x : Int32) (o : Nat) (of : Nat → Int64) (hnl : nl ≤ 12) (hwn : wn ≤ 6) : Hi l G yL_cube cL_cube 5 [(0, 10, 13, 21), (0, 10, 17, 13), (0, 10, 21, 15)] 8 128 3 18 [.ref (X 0), .int b, .int x, .ref o] [[(o, .inl (G.2.1 2, 1, .inr (.inl (of))))], [(X 0, .inr (9, [.ref (X 1), .int (nI nb), .ref (X 2), .ref (X 6), .ref (X 8), .ref (X 10), .ref (X 14), .ref (X 18), .int (nI nl), .int du, .ref (X 19), .int mo, .ref (X 20), .int cl]))], [(X 18, .inl (G.2.1 5, 12, .inr (.inr (.inr (.inr (refA 12 T))))))], famW 12 (fun ι => ltP G (T ι) (lz ι)), [(X 19, .inl (G.2.1 6, 2, .inr (.inr (.inr (.inr (refA 2 Z))))))], famW 2 (fun ι => slP G (Z ι) (sz ι)), [(X 20, .inr (8, [.ref (X 21), .int (nI wn), .int ws]))], [(X 21, .inl (G.2.1 0, 6, .inl wf))]] (fun r u => (∃ tt : Int32, ((tt = 1 ∧ ixB b (nI nl) = 0) ∨ (tt = 2 ∧ ixB b (nI nl) = 1 ∧ ¬ inR 0 2 x) ∨ (tt = 3 ∧ ixB b (nI nl) = 1 ∧ inR 0 2 x ∧ (ltGr ((lz b.toNatClampNeg).1 2) = 0 ∨ ¬ ltGr ((lz b.toNatClampNeg).2.1 x.toNatClampNeg) = 0))) ∧ r = tt ∧ u = [[(o, .inl (G.2.1 2, 1, .inr (.inl (of))))], [(X 0, .inr (9, [.ref (X 1), .int (nI nb), .ref (X 2), .ref (X 6), .ref (X 8), .ref (X 10), .ref (X 14), .ref (X 18), .int (nI nl), .int du, .ref (X 19), .int mo, .ref (X 20), .int cl]))], [(X 18, .inl (G.2.1 5, 12, .inr (.inr (.inr (.inr (refA 12 T))))))], famW 12 (fun ι => ltP G (T ι) (lz ι)), [(X 19, .inl (G.2.1 6, 2, .inr (.inr (.inr (.inr (refA 2 Z))))))], famW 2 (fun ι => slP G (Z ι) (sz ι)), [(X 20, .inr (8, [.ref (X 21), .int (nI wn), .int ws]))], [(X 21, .inl (G.2.1 0, 6, .inl wf))]]) ∨ (∃ (rv : Int32) (v : List va_W), (fun r u => ∃ i w : Nat, i < nl ∧ b = nI i ∧ w ≤ 2 ∧ x = nI w ∧ ltGr ((lz i).1 2) = 1 ∧ ltGr ((lz i).2.1 w) = 0 ∧ r = ltStrength w (lz i) ∧ u = [[(X 0, .inr (9, [.ref (X 1), .int (nI nb), .ref (X 2), .ref (X 6), .ref (X 8), .ref (X 10), .ref (X 14), .ref (X 18), .int (nI nl), .int du, .ref (X 19), .int mo, .ref (X 20), .int (cbC lz wf wn ws i w cl)]))], [(X 18, .inl (G.2.1 5, 12, .inr (.inr (.inr (.inr (refA 12 T))))))], famW 12 (fun ι => ltP G (T ι) ((va_up lz i ((lz i).1, (upd (lz i).2.1 w (ltStrength w (lz i))), (lz i).2.2)) ι)), [(X 19, .inl (G.2.1 6, 2, .inr (.inr (.inr (.inr (refA 2 Z))))))], famW 2 (fun ι => slP G (Z ι) ((cbS lz wf wn ws sz i w) ι)), [(X 20, .inr (8, [.ref (X 21), .int (nI (cbN wn w)), .int ws]))], [(X 21, .inl (G.2.1 0, 6, .inl (cbW lz wf wn i w)))]]) rv v ∧ r = 0 ∧ u = [(o, .inl (G.2.1 2, 1, .inr (.inl (vp_updL of 0 rv.toInt64))))] :: v)) := by
  refine Hi_of (by decide) (Nat.le_of_ble_eq_true rfl) (fun pP eE sS mM aA bB tT cC AA QQ hC hN hT hr hQ => ?_)
  refine V_aload_n hC dL_cube_0 3 rfl ?_
  refine V_iconst hC dL_cube_1 (v := 0) (by decide) ?_
  refine V_aload_n hC dL_cube_2 0 rfl ?_
  refine V_iload_n hC dL_cube_3 1 rfl ?_
  refine V_iload_n hC dL_cube_4 2 rfl ?_
  refine V_xcallV hC [.int b, .int x] (c_X8_cube l hl0 G X nb nl du mo cl T lz Z sz wn ws wf b x hnl hwn) dL_cube_5 q862 q863 q864 q43 q865 ⟨by decide, by decide, rfl⟩ ⟨by decide, by decide⟩ (ci := 9) rfl (mem_at 1 0 rfl rfl) rfl (Nat.le_of_ble_eq_true rfl) ⟨by decide, by decide⟩ (is := [1, 2, 3, 4, 5, 6, 7]) rfl (by decide) [0] (rs := [[(o, .inl (G.2.1 2, 1, .inr (.inl (of))))]]) rfl (by decide) (by decide) (fun E hE => ?_) (fun rv u hp => ?_)
  · rcases hE with ⟨rfl, hx⟩ | ⟨rfl, hx⟩ | ⟨rfl, hx⟩
    · refine ⟨13, HOK_of hC hN hT [] [(0, 10, 17, 13), (0, 10, 21, 15)] (0, 10, 13, 21) rfl (fun _ h9 => absurd h9 List.not_mem_nil) (by decide) (by decide) q732 soft_cX rfl, fun q => ?_⟩
      refine V_swap ?_
      refine V_astore hC dL_cube_13 (L' := [(4, .ref q), (0, .ref (X 0)), (1, .int b), (2, .int x), (3, .ref o)]) (by decide) rfl ?_
      refine V_iconst hC dL_cube_15 (v := 1) (by decide) ?_
      exact V_iretA hC hQ hr (by decide) (by decide) dL_cube_16 (Or.inl ⟨1, Or.inl ⟨rfl, hx⟩, rfl, rfl⟩)
    · refine ⟨17, HOK_of hC hN hT [(0, 10, 13, 21)] [(0, 10, 21, 15)] (0, 10, 17, 13) rfl (List.forall_mem_cons.mpr ⟨⟨by decide, _, q732, by decide +kernel⟩, fun _ h9 => absurd h9 List.not_mem_nil⟩) (by decide) (by decide) q718 soft_cA rfl, fun q => ?_⟩
      refine V_swap ?_
      refine V_astore hC dL_cube_17 (L' := [(4, .ref q), (0, .ref (X 0)), (1, .int b), (2, .int x), (3, .ref o)]) (by decide) rfl ?_
      refine V_iconst hC dL_cube_19 (v := 2) (by decide) ?_
      exact V_iretA hC hQ hr (by decide) (by decide) dL_cube_20 (Or.inl ⟨2, Or.inr (Or.inl ⟨rfl, hx⟩), rfl, rfl⟩)
    · refine ⟨21, HOK_of hC hN hT [(0, 10, 13, 21), (0, 10, 17, 13)] [] (0, 10, 21, 15) rfl (List.forall_mem_cons.mpr ⟨⟨by decide, _, q732, by decide +kernel⟩, List.forall_mem_cons.mpr ⟨⟨by decide, _, q718, by decide +kernel⟩, fun _ h9 => absurd h9 List.not_mem_nil⟩⟩) (by decide) (by decide) q719 soft_cT rfl, fun q => ?_⟩
      refine V_swap ?_
      refine V_astore hC dL_cube_21 (L' := [(4, .ref q), (0, .ref (X 0)), (1, .int b), (2, .int x), (3, .ref o)]) (by decide) rfl ?_
      refine V_iconst hC dL_cube_23 (v := 3) (by decide) ?_
      exact V_iretA hC hQ hr (by decide) (by decide) dL_cube_24 (Or.inl ⟨3, Or.inr (Or.inr (⟨rfl, hx⟩)), rfl, rfl⟩)
  · refine V_swap ?_
    refine V_i2l hC dL_cube_8 ?_
    refine V_last hC dL_cube_9 0 0 rfl rfl (vin (by decide)) (z := 0) (by decide) (ps' := [(o, .inl (G.2.1 2, 1, .inr (.inl (vp_updL of 0 rv.toInt64))))] :: u) (rfl) ?_
    refine V_goto hC dL_cube_10 (tgt := 25) (by decide) ?_
    refine V_iconst hC dL_cube_25 (v := 0) (by decide) ?_
    exact V_iretA hC hQ hr (by decide) (by decide) dL_cube_26 (Or.inr ⟨rv, u, hp, rfl, rfl⟩)
set_option maxHeartbeats 4000000 in
set_option maxRecDepth 100000 in
/-- a helper of the law -/
theorem h_standard (l : Launch) (hl0 : l.stackTraces = false) (G : VG) (X : Nat → Nat) (nb nl : Nat) (du mo cl : Int32) (wn : Nat) (ws : Int32) (wf : Nat → Int32) (x : Int32) (o : Nat) (of : Nat → Int64)  : Hi l G yL_standard cL_standard 4 [(0, 9, 12, 13)] 8 126 1 6 [.ref (X 0), .int x, .ref o] [[(o, .inl (G.2.1 2, 1, .inr (.inl (of))))], [(X 0, .inr (9, [.ref (X 1), .int (nI nb), .ref (X 2), .ref (X 6), .ref (X 8), .ref (X 10), .ref (X 14), .ref (X 18), .int (nI nl), .int du, .ref (X 19), .int mo, .ref (X 20), .int cl]))], [(X 20, .inr (8, [.ref (X 21), .int (nI wn), .int ws]))], [(X 21, .inl (G.2.1 0, 6, .inl wf))]] (fun r u => (∃ tt : Int32, ((tt = 1 ∧ ¬ inR 0 99 x)) ∧ r = tt ∧ u = [[(o, .inl (G.2.1 2, 1, .inr (.inl (of))))], [(X 0, .inr (9, [.ref (X 1), .int (nI nb), .ref (X 2), .ref (X 6), .ref (X 8), .ref (X 10), .ref (X 14), .ref (X 18), .int (nI nl), .int du, .ref (X 19), .int mo, .ref (X 20), .int cl]))], [(X 20, .inr (8, [.ref (X 21), .int (nI wn), .int ws]))], [(X 21, .inl (G.2.1 0, 6, .inl wf))]]) ∨ (∃ (rv : Int32) (v : List va_W), (fun r u => inR 0 99 x ∧ r = ws ∧ u = [[(X 0, .inr (9, [.ref (X 1), .int (nI nb), .ref (X 2), .ref (X 6), .ref (X 8), .ref (X 10), .ref (X 14), .ref (X 18), .int (nI nl), .int du, .ref (X 19), .int mo, .ref (X 20), .int cl]))], [(X 20, .inr (8, [.ref (X 21), .int (nI wn), .int x]))], [(X 21, .inl (G.2.1 0, 6, .inl wf))]]) rv v ∧ r = 0 ∧ u = [(o, .inl (G.2.1 2, 1, .inr (.inl (vp_updL of 0 rv.toInt64))))] :: v)) := by
  refine Hi_of (by decide) (Nat.le_of_ble_eq_true rfl) (fun pP eE sS mM aA bB tT cC AA QQ hC hN hT hr hQ => ?_)
  refine V_aload_n hC dL_standard_0 2 rfl ?_
  refine V_iconst hC dL_standard_1 (v := 0) (by decide) ?_
  refine V_aload_n hC dL_standard_2 0 rfl ?_
  refine V_iload_n hC dL_standard_3 1 rfl ?_
  refine V_xcallV hC [.int x] (c_X8_standard l hl0 G X nb nl du mo cl wn ws wf x ) dL_standard_4 q891 q892 q893 q43 q894 ⟨by decide, by decide, rfl⟩ ⟨by decide, by decide⟩ (ci := 9) rfl (mem_at 1 0 rfl rfl) rfl (Nat.le_of_ble_eq_true rfl) ⟨by decide, by decide⟩ (is := [1, 2, 3]) rfl (by decide) [0] (rs := [[(o, .inl (G.2.1 2, 1, .inr (.inl (of))))]]) rfl (by decide) (by decide) (fun E hE => ?_) (fun rv u hp => ?_)
  · rcases hE with ⟨rfl, hx⟩
    · refine ⟨12, HOK_of hC hN hT [] [] (0, 9, 12, 13) rfl (fun _ h9 => absurd h9 List.not_mem_nil) (by decide) (by decide) q718 soft_cA rfl, fun q => ?_⟩
      refine V_swap ?_
      refine V_astore_n hC dL_standard_12 (L' := [(3, .ref q), (0, .ref (X 0)), (1, .int x), (2, .ref o)]) (by decide) rfl ?_
      refine V_iconst hC dL_standard_13 (v := 1) (by decide) ?_
      exact V_iretA hC hQ hr (by decide) (by decide) dL_standard_14 (Or.inl ⟨1, ⟨rfl, hx⟩, rfl, rfl⟩)
  · refine V_swap ?_
    refine V_i2l hC dL_standard_7 ?_
    refine V_last hC dL_standard_8 0 0 rfl rfl (vin (by decide)) (z := 0) (by decide) (ps' := [(o, .inl (G.2.1 2, 1, .inr (.inl (vp_updL of 0 rv.toInt64))))] :: u) (rfl) ?_
    refine V_goto hC dL_standard_9 (tgt := 15) (by decide) ?_
    refine V_iconst hC dL_standard_15 (v := 0) (by decide) ?_
    exact V_iretA hC hQ hr (by decide) (by decide) dL_standard_16 (Or.inr ⟨rv, u, hp, rfl, rfl⟩)
set_option maxHeartbeats 4000000 in
set_option maxRecDepth 100000 in
/-- a helper of the law -/
theorem h_ofBlock (l : Launch) (hl0 : l.stackTraces = false) (G : VG) (X : Nat → Nat) (nb nl : Nat) (du mo cl : Int32) (B : Nat → Nat → Nat) (bz : Nat → BV) (b x : Int32) (o : Nat) (of : Nat → Int64) (hnb : nb ≤ 6) (hk01 : ∀ j, j < 6 → (bz j).2.1 = 0 ∨ (bz j).2.1 = 1) : Hi l G yL_ofBlock cL_ofBlock 5 [(0, 10, 13, 21), (0, 10, 17, 13)] 8 126 2 12 [.ref (X 0), .int b, .int x, .ref o] [[(o, .inl (G.2.1 2, 1, .inr (.inl (of))))], [(X 0, .inr (9, [.ref (X 1), .int (nI nb), .ref (X 2), .ref (X 6), .ref (X 8), .ref (X 10), .ref (X 14), .ref (X 18), .int (nI nl), .int du, .ref (X 19), .int mo, .ref (X 20), .int cl]))], [(X 1, .inl (G.2.1 3, 6, .inr (.inr (.inr (.inr (refA 6 B))))))], famW 6 (fun ι => bkP G (B ι) (bz ι))] (fun r u => (∃ tt : Int32, ((tt = 1 ∧ ixB b (nI nb) = 0) ∨ (tt = 2 ∧ ixB b (nI nb) = 1 ∧ ¬ inR 0 5 x)) ∧ r = tt ∧ u = [[(o, .inl (G.2.1 2, 1, .inr (.inl (of))))], [(X 0, .inr (9, [.ref (X 1), .int (nI nb), .ref (X 2), .ref (X 6), .ref (X 8), .ref (X 10), .ref (X 14), .ref (X 18), .int (nI nl), .int du, .ref (X 19), .int mo, .ref (X 20), .int cl]))], [(X 1, .inl (G.2.1 3, 6, .inr (.inr (.inr (.inr (refA 6 B))))))], famW 6 (fun ι => bkP G (B ι) (bz ι))]) ∨ (∃ (rv : Int32) (v : List va_W), (fun r u => ∃ i w : Nat, i < nb ∧ b = nI i ∧ w ≤ 5 ∧ x = nI w ∧ r = qBlock (bz i) w ∧ u = [[(X 0, .inr (9, [.ref (X 1), .int (nI nb), .ref (X 2), .ref (X 6), .ref (X 8), .ref (X 10), .ref (X 14), .ref (X 18), .int (nI nl), .int du, .ref (X 19), .int mo, .ref (X 20), .int cl]))], [(X 1, .inl (G.2.1 3, 6, .inr (.inr (.inr (.inr (refA 6 B))))))], famW 6 (fun ι => bkP G (B ι) (bz ι))]) rv v ∧ r = 0 ∧ u = [(o, .inl (G.2.1 2, 1, .inr (.inl (vp_updL of 0 rv.toInt64))))] :: v)) := by
  refine Hi_of (by decide) (Nat.le_of_ble_eq_true rfl) (fun pP eE sS mM aA bB tT cC AA QQ hC hN hT hr hQ => ?_)
  refine V_aload_n hC dL_ofBlock_0 3 rfl ?_
  refine V_iconst hC dL_ofBlock_1 (v := 0) (by decide) ?_
  refine V_aload_n hC dL_ofBlock_2 0 rfl ?_
  refine V_iload_n hC dL_ofBlock_3 1 rfl ?_
  refine V_iload_n hC dL_ofBlock_4 2 rfl ?_
  refine V_xcallV hC [.int b, .int x] (c_X8_ofBlock l hl0 G X nb nl du mo cl B bz b x hnb hk01) dL_ofBlock_5 q898 q477 q478 q43 q479 ⟨by decide, by decide, rfl⟩ ⟨by decide, by decide⟩ (ci := 9) rfl (mem_at 1 0 rfl rfl) rfl (Nat.le_of_ble_eq_true rfl) ⟨by decide, by decide⟩ (is := [1, 2, 3]) rfl (by decide) [0] (rs := [[(o, .inl (G.2.1 2, 1, .inr (.inl (of))))]]) rfl (by decide) (by decide) (fun E hE => ?_) (fun rv u hp => ?_)
  · rcases hE with ⟨rfl, hx⟩ | ⟨rfl, hx⟩
    · refine ⟨13, HOK_of hC hN hT [] [(0, 10, 17, 13)] (0, 10, 13, 21) rfl (fun _ h9 => absurd h9 List.not_mem_nil) (by decide) (by decide) q732 soft_cX rfl, fun q => ?_⟩
      refine V_swap ?_
      refine V_astore hC dL_ofBlock_13 (L' := [(4, .ref q), (0, .ref (X 0)), (1, .int b), (2, .int x), (3, .ref o)]) (by decide) rfl ?_
      refine V_iconst hC dL_ofBlock_15 (v := 1) (by decide) ?_
      exact V_iretA hC hQ hr (by decide) (by decide) dL_ofBlock_16 (Or.inl ⟨1, Or.inl ⟨rfl, hx⟩, rfl, rfl⟩)
    · refine ⟨17, HOK_of hC hN hT [(0, 10, 13, 21)] [] (0, 10, 17, 13) rfl (List.forall_mem_cons.mpr ⟨⟨by decide, _, q732, by decide +kernel⟩, fun _ h9 => absurd h9 List.not_mem_nil⟩) (by decide) (by decide) q718 soft_cA rfl, fun q => ?_⟩
      refine V_swap ?_
      refine V_astore hC dL_ofBlock_17 (L' := [(4, .ref q), (0, .ref (X 0)), (1, .int b), (2, .int x), (3, .ref o)]) (by decide) rfl ?_
      refine V_iconst hC dL_ofBlock_19 (v := 2) (by decide) ?_
      exact V_iretA hC hQ hr (by decide) (by decide) dL_ofBlock_20 (Or.inl ⟨2, Or.inr (⟨rfl, hx⟩), rfl, rfl⟩)
  · refine V_swap ?_
    refine V_i2l hC dL_ofBlock_8 ?_
    refine V_last hC dL_ofBlock_9 0 0 rfl rfl (vin (by decide)) (z := 0) (by decide) (ps' := [(o, .inl (G.2.1 2, 1, .inr (.inl (vp_updL of 0 rv.toInt64))))] :: u) (rfl) ?_
    refine V_goto hC dL_ofBlock_10 (tgt := 21) (by decide) ?_
    refine V_iconst hC dL_ofBlock_21 (v := 0) (by decide) ?_
    exact V_iretA hC hQ hr (by decide) (by decide) dL_ofBlock_22 (Or.inr ⟨rv, u, hp, rfl, rfl⟩)
set_option maxHeartbeats 4000000 in
set_option maxRecDepth 100000 in
/-- a helper of the law -/
theorem h_ofLayer (l : Launch) (hl0 : l.stackTraces = false) (G : VG) (X : Nat → Nat) (nb nl : Nat) (du mo cl : Int32) (n : Nat) (f g h : Nat → Int32) (b x : Int32) (o : Nat) (of : Nat → Int64) (hn : n ≤ 8) : Hi l G yL_ofLayer cL_ofLayer 5 [(0, 10, 13, 21), (0, 10, 17, 13)] 8 126 2 12 [.ref (X 0), .int b, .int x, .ref o] [[(o, .inl (G.2.1 2, 1, .inr (.inl (of))))], [(X 0, .inr (9, [.ref (X 1), .int (nI nb), .ref (X 2), .ref (X 6), .ref (X 8), .ref (X 10), .ref (X 14), .ref (X 18), .int (nI nl), .int du, .ref (X 19), .int mo, .ref (X 20), .int cl]))], [(X 2, .inr (6, [.int (nI n), .ref (X 3), .ref (X 4), .ref (X 5)]))], [(X 3, .inl (G.2.1 0, 8, .inl f))], [(X 4, .inl (G.2.1 0, 8, .inl g))], [(X 5, .inl (G.2.1 0, 8, .inl h))]] (fun r u => (∃ tt : Int32, ((tt = 1 ∧ ixB b (nI n) = 0) ∨ (tt = 2 ∧ ixB b (nI n) = 1 ∧ ¬ inR 0 1 x)) ∧ r = tt ∧ u = [[(o, .inl (G.2.1 2, 1, .inr (.inl (of))))], [(X 0, .inr (9, [.ref (X 1), .int (nI nb), .ref (X 2), .ref (X 6), .ref (X 8), .ref (X 10), .ref (X 14), .ref (X 18), .int (nI nl), .int du, .ref (X 19), .int mo, .ref (X 20), .int cl]))], [(X 2, .inr (6, [.int (nI n), .ref (X 3), .ref (X 4), .ref (X 5)]))], [(X 3, .inl (G.2.1 0, 8, .inl f))], [(X 4, .inl (G.2.1 0, 8, .inl g))], [(X 5, .inl (G.2.1 0, 8, .inl h))]]) ∨ (∃ (rv : Int32) (v : List va_W), (fun r u => ∃ i w : Nat, i < n ∧ b = nI i ∧ w ≤ 1 ∧ x = nI w ∧ r = (if w = 0 then f i else g i) ∧ u = [[(X 0, .inr (9, [.ref (X 1), .int (nI nb), .ref (X 2), .ref (X 6), .ref (X 8), .ref (X 10), .ref (X 14), .ref (X 18), .int (nI nl), .int du, .ref (X 19), .int mo, .ref (X 20), .int cl]))], [(X 2, .inr (6, [.int (nI n), .ref (X 3), .ref (X 4), .ref (X 5)]))], [(X 3, .inl (G.2.1 0, 8, .inl f))], [(X 4, .inl (G.2.1 0, 8, .inl g))], [(X 5, .inl (G.2.1 0, 8, .inl h))]]) rv v ∧ r = 0 ∧ u = [(o, .inl (G.2.1 2, 1, .inr (.inl (vp_updL of 0 rv.toInt64))))] :: v)) := by
  refine Hi_of (by decide) (Nat.le_of_ble_eq_true rfl) (fun pP eE sS mM aA bB tT cC AA QQ hC hN hT hr hQ => ?_)
  refine V_aload_n hC dL_ofLayer_0 3 rfl ?_
  refine V_iconst hC dL_ofLayer_1 (v := 0) (by decide) ?_
  refine V_aload_n hC dL_ofLayer_2 0 rfl ?_
  refine V_iload_n hC dL_ofLayer_3 1 rfl ?_
  refine V_iload_n hC dL_ofLayer_4 2 rfl ?_
  refine V_xcallV hC [.int b, .int x] (c_X8_ofLayer l hl0 G X nb nl du mo cl n f g h b x hn) dL_ofLayer_5 q902 q510 q511 q43 q512 ⟨by decide, by decide, rfl⟩ ⟨by decide, by decide⟩ (ci := 9) rfl (mem_at 1 0 rfl rfl) rfl (Nat.le_of_ble_eq_true rfl) ⟨by decide, by decide⟩ (is := [1, 2, 3, 4, 5]) rfl (by decide) [0] (rs := [[(o, .inl (G.2.1 2, 1, .inr (.inl (of))))]]) rfl (by decide) (by decide) (fun E hE => ?_) (fun rv u hp => ?_)
  · rcases hE with ⟨rfl, hx⟩ | ⟨rfl, hx⟩
    · refine ⟨13, HOK_of hC hN hT [] [(0, 10, 17, 13)] (0, 10, 13, 21) rfl (fun _ h9 => absurd h9 List.not_mem_nil) (by decide) (by decide) q732 soft_cX rfl, fun q => ?_⟩
      refine V_swap ?_
      refine V_astore hC dL_ofLayer_13 (L' := [(4, .ref q), (0, .ref (X 0)), (1, .int b), (2, .int x), (3, .ref o)]) (by decide) rfl ?_
      refine V_iconst hC dL_ofLayer_15 (v := 1) (by decide) ?_
      exact V_iretA hC hQ hr (by decide) (by decide) dL_ofLayer_16 (Or.inl ⟨1, Or.inl ⟨rfl, hx⟩, rfl, rfl⟩)
    · refine ⟨17, HOK_of hC hN hT [(0, 10, 13, 21)] [] (0, 10, 17, 13) rfl (List.forall_mem_cons.mpr ⟨⟨by decide, _, q732, by decide +kernel⟩, fun _ h9 => absurd h9 List.not_mem_nil⟩) (by decide) (by decide) q718 soft_cA rfl, fun q => ?_⟩
      refine V_swap ?_
      refine V_astore hC dL_ofLayer_17 (L' := [(4, .ref q), (0, .ref (X 0)), (1, .int b), (2, .int x), (3, .ref o)]) (by decide) rfl ?_
      refine V_iconst hC dL_ofLayer_19 (v := 2) (by decide) ?_
      exact V_iretA hC hQ hr (by decide) (by decide) dL_ofLayer_20 (Or.inl ⟨2, Or.inr (⟨rfl, hx⟩), rfl, rfl⟩)
  · refine V_swap ?_
    refine V_i2l hC dL_ofLayer_8 ?_
    refine V_last hC dL_ofLayer_9 0 0 rfl rfl (vin (by decide)) (z := 0) (by decide) (ps' := [(o, .inl (G.2.1 2, 1, .inr (.inl (vp_updL of 0 rv.toInt64))))] :: u) (rfl) ?_
    refine V_goto hC dL_ofLayer_10 (tgt := 21) (by decide) ?_
    refine V_iconst hC dL_ofLayer_21 (v := 0) (by decide) ?_
    exact V_iretA hC hQ hr (by decide) (by decide) dL_ofLayer_22 (Or.inr ⟨rv, u, hp, rfl, rfl⟩)
set_option maxHeartbeats 4000000 in
set_option maxRecDepth 100000 in
/-- a helper of the law -/
theorem h_ofCell (l : Launch) (hl0 : l.stackTraces = false) (G : VG) (X : Nat → Nat) (nb nl : Nat) (du mo cl : Int32) (C : Nat → Nat → Nat) (O : Nat → Nat) (S : KS) (b x : Int32) (o : Nat) (of : Nat → Int64)  : Hi l G yL_ofCell cL_ofCell 5 [(0, 10, 13, 21), (0, 10, 17, 13)] 8 127 2 12 [.ref (X 0), .int b, .int x, .ref o] [[(o, .inl (G.2.1 2, 1, .inr (.inl (of))))], [(X 0, .inr (9, [.ref (X 1), .int (nI nb), .ref (X 2), .ref (X 6), .ref (X 8), .ref (X 10), .ref (X 14), .ref (X 18), .int (nI nl), .int du, .ref (X 19), .int mo, .ref (X 20), .int cl]))], [(X 10, .inr (3, [.ref (X 11), .ref (X 12), .ref (X 13), .int (nI S.2.1), .ref (O 0), .int (S.1 0), .int (S.1 1), .int (S.1 2), .int (S.1 3), .int (S.1 4), .int (S.1 5), .int (S.1 6)]))], [(X 11, .inl (G.2.1 4, 5, .inr (.inr (.inr (.inr (refA 5 C))))))], [(X 12, .inl (G.2.1 0, 5, .inl S.2.2.2.2.2))], famW 5 (fun ι => chP G (C ι) (S.2.2.1 ι))] (fun r u => (∃ tt : Int32, ((tt = 1 ∧ ixB b 5 = 0) ∨ (tt = 2 ∧ ixB b 5 = 1 ∧ ¬ inR 0 7 x)) ∧ r = tt ∧ u = [[(o, .inl (G.2.1 2, 1, .inr (.inl (of))))], [(X 0, .inr (9, [.ref (X 1), .int (nI nb), .ref (X 2), .ref (X 6), .ref (X 8), .ref (X 10), .ref (X 14), .ref (X 18), .int (nI nl), .int du, .ref (X 19), .int mo, .ref (X 20), .int cl]))], [(X 10, .inr (3, [.ref (X 11), .ref (X 12), .ref (X 13), .int (nI S.2.1), .ref (O 0), .int (S.1 0), .int (S.1 1), .int (S.1 2), .int (S.1 3), .int (S.1 4), .int (S.1 5), .int (S.1 6)]))], [(X 11, .inl (G.2.1 4, 5, .inr (.inr (.inr (.inr (refA 5 C))))))], [(X 12, .inl (G.2.1 0, 5, .inl S.2.2.2.2.2))], famW 5 (fun ι => chP G (C ι) (S.2.2.1 ι))]) ∨ (∃ (rv : Int32) (v : List va_W), (fun r u => ∃ i w : Nat, i < 5 ∧ b = nI i ∧ w ≤ 7 ∧ x = nI w ∧ r = qCell (S.2.2.1 i) (S.2.2.2.2.2 i) w ∧ u = [[(X 0, .inr (9, [.ref (X 1), .int (nI nb), .ref (X 2), .ref (X 6), .ref (X 8), .ref (X 10), .ref (X 14), .ref (X 18), .int (nI nl), .int du, .ref (X 19), .int mo, .ref (X 20), .int cl]))], [(X 10, .inr (3, [.ref (X 11), .ref (X 12), .ref (X 13), .int (nI S.2.1), .ref (O 0), .int (S.1 0), .int (S.1 1), .int (S.1 2), .int (S.1 3), .int (S.1 4), .int (S.1 5), .int (S.1 6)]))], [(X 11, .inl (G.2.1 4, 5, .inr (.inr (.inr (.inr (refA 5 C))))))], [(X 12, .inl (G.2.1 0, 5, .inl S.2.2.2.2.2))], famW 5 (fun ι => chP G (C ι) (S.2.2.1 ι))]) rv v ∧ r = 0 ∧ u = [(o, .inl (G.2.1 2, 1, .inr (.inl (vp_updL of 0 rv.toInt64))))] :: v)) := by
  refine Hi_of (by decide) (Nat.le_of_ble_eq_true rfl) (fun pP eE sS mM aA bB tT cC AA QQ hC hN hT hr hQ => ?_)
  refine V_aload_n hC dL_ofCell_0 3 rfl ?_
  refine V_iconst hC dL_ofCell_1 (v := 0) (by decide) ?_
  refine V_aload_n hC dL_ofCell_2 0 rfl ?_
  refine V_iload_n hC dL_ofCell_3 1 rfl ?_
  refine V_iload_n hC dL_ofCell_4 2 rfl ?_
  refine V_xcallV hC [.int b, .int x] (c_X8_ofCell l hl0 G X nb nl du mo cl C O S b x ) dL_ofCell_5 q906 q518 q519 q43 q520 ⟨by decide, by decide, rfl⟩ ⟨by decide, by decide⟩ (ci := 9) rfl (mem_at 1 0 rfl rfl) rfl (Nat.le_of_ble_eq_true rfl) ⟨by decide, by decide⟩ (is := [1, 2, 3, 4, 5]) rfl (by decide) [0] (rs := [[(o, .inl (G.2.1 2, 1, .inr (.inl (of))))]]) rfl (by decide) (by decide) (fun E hE => ?_) (fun rv u hp => ?_)
  · rcases hE with ⟨rfl, hx⟩ | ⟨rfl, hx⟩
    · refine ⟨13, HOK_of hC hN hT [] [(0, 10, 17, 13)] (0, 10, 13, 21) rfl (fun _ h9 => absurd h9 List.not_mem_nil) (by decide) (by decide) q732 soft_cX rfl, fun q => ?_⟩
      refine V_swap ?_
      refine V_astore hC dL_ofCell_13 (L' := [(4, .ref q), (0, .ref (X 0)), (1, .int b), (2, .int x), (3, .ref o)]) (by decide) rfl ?_
      refine V_iconst hC dL_ofCell_15 (v := 1) (by decide) ?_
      exact V_iretA hC hQ hr (by decide) (by decide) dL_ofCell_16 (Or.inl ⟨1, Or.inl ⟨rfl, hx⟩, rfl, rfl⟩)
    · refine ⟨17, HOK_of hC hN hT [(0, 10, 13, 21)] [] (0, 10, 17, 13) rfl (List.forall_mem_cons.mpr ⟨⟨by decide, _, q732, by decide +kernel⟩, fun _ h9 => absurd h9 List.not_mem_nil⟩) (by decide) (by decide) q718 soft_cA rfl, fun q => ?_⟩
      refine V_swap ?_
      refine V_astore hC dL_ofCell_17 (L' := [(4, .ref q), (0, .ref (X 0)), (1, .int b), (2, .int x), (3, .ref o)]) (by decide) rfl ?_
      refine V_iconst hC dL_ofCell_19 (v := 2) (by decide) ?_
      exact V_iretA hC hQ hr (by decide) (by decide) dL_ofCell_20 (Or.inl ⟨2, Or.inr (⟨rfl, hx⟩), rfl, rfl⟩)
  · refine V_swap ?_
    refine V_i2l hC dL_ofCell_8 ?_
    refine V_last hC dL_ofCell_9 0 0 rfl rfl (vin (by decide)) (z := 0) (by decide) (ps' := [(o, .inl (G.2.1 2, 1, .inr (.inl (vp_updL of 0 rv.toInt64))))] :: u) (rfl) ?_
    refine V_goto hC dL_ofCell_10 (tgt := 21) (by decide) ?_
    refine V_iconst hC dL_ofCell_21 (v := 0) (by decide) ?_
    exact V_iretA hC hQ hr (by decide) (by decide) dL_ofCell_22 (Or.inr ⟨rv, u, hp, rfl, rfl⟩)
set_option maxHeartbeats 4000000 in
set_option maxRecDepth 100000 in
/-- a helper of the law -/
theorem h_ofLot (l : Launch) (hl0 : l.stackTraces = false) (G : VG) (X : Nat → Nat) (nb nl : Nat) (du mo cl : Int32) (T : Nat → Nat → Nat) (lz : Nat → LV) (b x : Int32) (o : Nat) (of : Nat → Int64) (hnl : nl ≤ 12) : Hi l G yL_ofLot cL_ofLot 5 [(0, 10, 13, 21), (0, 10, 17, 13)] 8 128 2 12 [.ref (X 0), .int b, .int x, .ref o] [[(o, .inl (G.2.1 2, 1, .inr (.inl (of))))], [(X 0, .inr (9, [.ref (X 1), .int (nI nb), .ref (X 2), .ref (X 6), .ref (X 8), .ref (X 10), .ref (X 14), .ref (X 18), .int (nI nl), .int du, .ref (X 19), .int mo, .ref (X 20), .int cl]))], [(X 18, .inl (G.2.1 5, 12, .inr (.inr (.inr (.inr (refA 12 T))))))], famW 12 (fun ι => ltP G (T ι) (lz ι))] (fun r u => (∃ tt : Int32, ((tt = 1 ∧ ixB b (nI nl) = 0) ∨ (tt = 2 ∧ ixB b (nI nl) = 1 ∧ ¬ inR 0 21 x)) ∧ r = tt ∧ u = [[(o, .inl (G.2.1 2, 1, .inr (.inl (of))))], [(X 0, .inr (9, [.ref (X 1), .int (nI nb), .ref (X 2), .ref (X 6), .ref (X 8), .ref (X 10), .ref (X 14), .ref (X 18), .int (nI nl), .int du, .ref (X 19), .int mo, .ref (X 20), .int cl]))], [(X 18, .inl (G.2.1 5, 12, .inr (.inr (.inr (.inr (refA 12 T))))))], famW 12 (fun ι => ltP G (T ι) (lz ι))]) ∨ (∃ (rv : Int32) (v : List va_W), (fun r u => ∃ i w : Nat, i < nl ∧ b = nI i ∧ w ≤ 21 ∧ x = nI w ∧ r = qLot (lz i) w ∧ u = [[(X 0, .inr (9, [.ref (X 1), .int (nI nb), .ref (X 2), .ref (X 6), .ref (X 8), .ref (X 10), .ref (X 14), .ref (X 18), .int (nI nl), .int du, .ref (X 19), .int mo, .ref (X 20), .int cl]))], [(X 18, .inl (G.2.1 5, 12, .inr (.inr (.inr (.inr (refA 12 T))))))], famW 12 (fun ι => ltP G (T ι) (lz ι))]) rv v ∧ r = 0 ∧ u = [(o, .inl (G.2.1 2, 1, .inr (.inl (vp_updL of 0 rv.toInt64))))] :: v)) := by
  refine Hi_of (by decide) (Nat.le_of_ble_eq_true rfl) (fun pP eE sS mM aA bB tT cC AA QQ hC hN hT hr hQ => ?_)
  refine V_aload_n hC dL_ofLot_0 3 rfl ?_
  refine V_iconst hC dL_ofLot_1 (v := 0) (by decide) ?_
  refine V_aload_n hC dL_ofLot_2 0 rfl ?_
  refine V_iload_n hC dL_ofLot_3 1 rfl ?_
  refine V_iload_n hC dL_ofLot_4 2 rfl ?_
  refine V_xcallV hC [.int b, .int x] (c_X8_ofLot l hl0 G X nb nl du mo cl T lz b x hnl) dL_ofLot_5 q910 q564 q565 q43 q566 ⟨by decide, by decide, rfl⟩ ⟨by decide, by decide⟩ (ci := 9) rfl (mem_at 1 0 rfl rfl) rfl (Nat.le_of_ble_eq_true rfl) ⟨by decide, by decide⟩ (is := [1, 2, 3]) rfl (by decide) [0] (rs := [[(o, .inl (G.2.1 2, 1, .inr (.inl (of))))]]) rfl (by decide) (by decide) (fun E hE => ?_) (fun rv u hp => ?_)
  · rcases hE with ⟨rfl, hx⟩ | ⟨rfl, hx⟩
    · refine ⟨13, HOK_of hC hN hT [] [(0, 10, 17, 13)] (0, 10, 13, 21) rfl (fun _ h9 => absurd h9 List.not_mem_nil) (by decide) (by decide) q732 soft_cX rfl, fun q => ?_⟩
      refine V_swap ?_
      refine V_astore hC dL_ofLot_13 (L' := [(4, .ref q), (0, .ref (X 0)), (1, .int b), (2, .int x), (3, .ref o)]) (by decide) rfl ?_
      refine V_iconst hC dL_ofLot_15 (v := 1) (by decide) ?_
      exact V_iretA hC hQ hr (by decide) (by decide) dL_ofLot_16 (Or.inl ⟨1, Or.inl ⟨rfl, hx⟩, rfl, rfl⟩)
    · refine ⟨17, HOK_of hC hN hT [(0, 10, 13, 21)] [] (0, 10, 17, 13) rfl (List.forall_mem_cons.mpr ⟨⟨by decide, _, q732, by decide +kernel⟩, fun _ h9 => absurd h9 List.not_mem_nil⟩) (by decide) (by decide) q718 soft_cA rfl, fun q => ?_⟩
      refine V_swap ?_
      refine V_astore hC dL_ofLot_17 (L' := [(4, .ref q), (0, .ref (X 0)), (1, .int b), (2, .int x), (3, .ref o)]) (by decide) rfl ?_
      refine V_iconst hC dL_ofLot_19 (v := 2) (by decide) ?_
      exact V_iretA hC hQ hr (by decide) (by decide) dL_ofLot_20 (Or.inl ⟨2, Or.inr (⟨rfl, hx⟩), rfl, rfl⟩)
  · refine V_swap ?_
    refine V_i2l hC dL_ofLot_8 ?_
    refine V_last hC dL_ofLot_9 0 0 rfl rfl (vin (by decide)) (z := 0) (by decide) (ps' := [(o, .inl (G.2.1 2, 1, .inr (.inl (vp_updL of 0 rv.toInt64))))] :: u) (rfl) ?_
    refine V_goto hC dL_ofLot_10 (tgt := 21) (by decide) ?_
    refine V_iconst hC dL_ofLot_21 (v := 0) (by decide) ?_
    exact V_iretA hC hQ hr (by decide) (by decide) dL_ofLot_22 (Or.inr ⟨rv, u, hp, rfl, rfl⟩)
set_option maxHeartbeats 4000000 in
set_option maxRecDepth 100000 in
/-- a helper of the law -/
theorem h_modulus (l : Launch) (hl0 : l.stackTraces = false) (G : VG) (X : Nat → Nat) (nb nl : Nat) (du mo cl : Int32) (W : Nat → Nat → Nat) (O : Nat → Nat) (S : KS) (b x : Int32) (o : Nat) (of : Nat → Int64) (hq3 : S.2.1 ≤ 3) : Hi l G yL_modulus cL_modulus 5 [(0, 10, 13, 21), (0, 10, 17, 13)] 8 127 2 12 [.ref (X 0), .int b, .int x, .ref o] [[(o, .inl (G.2.1 2, 1, .inr (.inl (of))))], [(X 0, .inr (9, [.ref (X 1), .int (nI nb), .ref (X 2), .ref (X 6), .ref (X 8), .ref (X 10), .ref (X 14), .ref (X 18), .int (nI nl), .int du, .ref (X 19), .int mo, .ref (X 20), .int cl]))], [(X 10, .inr (3, [.ref (X 11), .ref (X 12), .ref (X 13), .int (nI S.2.1), .ref (O 0), .int (S.1 0), .int (S.1 1), .int (S.1 2), .int (S.1 3), .int (S.1 4), .int (S.1 5), .int (S.1 6)]))], [(X 13, .inl (G.2.1 4, 3, .inr (.inr (.inr (.inr (refA 3 W))))))], famW 3 (fun ι => chP G (W ι) (S.2.2.2.1 ι))] (fun r u => (∃ tt : Int32, ((tt = 1 ∧ ixB b (nI S.2.1) = 0) ∨ (tt = 2 ∧ ixB b (nI S.2.1) = 1 ∧ ¬ inR 0 3 x)) ∧ r = tt ∧ u = [[(o, .inl (G.2.1 2, 1, .inr (.inl (of))))], [(X 0, .inr (9, [.ref (X 1), .int (nI nb), .ref (X 2), .ref (X 6), .ref (X 8), .ref (X 10), .ref (X 14), .ref (X 18), .int (nI nl), .int du, .ref (X 19), .int mo, .ref (X 20), .int cl]))], [(X 10, .inr (3, [.ref (X 11), .ref (X 12), .ref (X 13), .int (nI S.2.1), .ref (O 0), .int (S.1 0), .int (S.1 1), .int (S.1 2), .int (S.1 3), .int (S.1 4), .int (S.1 5), .int (S.1 6)]))], [(X 13, .inl (G.2.1 4, 3, .inr (.inr (.inr (.inr (refA 3 W))))))], famW 3 (fun ι => chP G (W ι) (S.2.2.2.1 ι))]) ∨ (∃ (rv : Int32) (v : List va_W), (fun r u => ∃ i w : Nat, i < S.2.1 ∧ b = nI i ∧ w ≤ 3 ∧ x = nI w ∧ r = qMod (S.2.2.2.1 i).2.1 w ∧ u = [[(X 0, .inr (9, [.ref (X 1), .int (nI nb), .ref (X 2), .ref (X 6), .ref (X 8), .ref (X 10), .ref (X 14), .ref (X 18), .int (nI nl), .int du, .ref (X 19), .int mo, .ref (X 20), .int cl]))], [(X 10, .inr (3, [.ref (X 11), .ref (X 12), .ref (X 13), .int (nI S.2.1), .ref (O 0), .int (S.1 0), .int (S.1 1), .int (S.1 2), .int (S.1 3), .int (S.1 4), .int (S.1 5), .int (S.1 6)]))], [(X 13, .inl (G.2.1 4, 3, .inr (.inr (.inr (.inr (refA 3 W))))))], famW 3 (fun ι => chP G (W ι) (S.2.2.2.1 ι))]) rv v ∧ r = 0 ∧ u = [(o, .inl (G.2.1 2, 1, .inr (.inl (vp_updL of 0 rv.toInt64))))] :: v)) := by
  refine Hi_of (by decide) (Nat.le_of_ble_eq_true rfl) (fun pP eE sS mM aA bB tT cC AA QQ hC hN hT hr hQ => ?_)
  refine V_aload_n hC dL_modulus_0 3 rfl ?_
  refine V_iconst hC dL_modulus_1 (v := 0) (by decide) ?_
  refine V_aload_n hC dL_modulus_2 0 rfl ?_
  refine V_iload_n hC dL_modulus_3 1 rfl ?_
  refine V_iload_n hC dL_modulus_4 2 rfl ?_
  refine V_xcallV hC [.int b, .int x] (c_X8_modulus l hl0 G X nb nl du mo cl W O S b x hq3) dL_modulus_5 q914 q530 q531 q43 q532 ⟨by decide, by decide, rfl⟩ ⟨by decide, by decide⟩ (ci := 9) rfl (mem_at 1 0 rfl rfl) rfl (Nat.le_of_ble_eq_true rfl) ⟨by decide, by decide⟩ (is := [1, 2, 3, 4]) rfl (by decide) [0] (rs := [[(o, .inl (G.2.1 2, 1, .inr (.inl (of))))]]) rfl (by decide) (by decide) (fun E hE => ?_) (fun rv u hp => ?_)
  · rcases hE with ⟨rfl, hx⟩ | ⟨rfl, hx⟩
    · refine ⟨13, HOK_of hC hN hT [] [(0, 10, 17, 13)] (0, 10, 13, 21) rfl (fun _ h9 => absurd h9 List.not_mem_nil) (by decide) (by decide) q732 soft_cX rfl, fun q => ?_⟩
      refine V_swap ?_
      refine V_astore hC dL_modulus_13 (L' := [(4, .ref q), (0, .ref (X 0)), (1, .int b), (2, .int x), (3, .ref o)]) (by decide) rfl ?_
      refine V_iconst hC dL_modulus_15 (v := 1) (by decide) ?_
      exact V_iretA hC hQ hr (by decide) (by decide) dL_modulus_16 (Or.inl ⟨1, Or.inl ⟨rfl, hx⟩, rfl, rfl⟩)
    · refine ⟨17, HOK_of hC hN hT [(0, 10, 13, 21)] [] (0, 10, 17, 13) rfl (List.forall_mem_cons.mpr ⟨⟨by decide, _, q732, by decide +kernel⟩, fun _ h9 => absurd h9 List.not_mem_nil⟩) (by decide) (by decide) q718 soft_cA rfl, fun q => ?_⟩
      refine V_swap ?_
      refine V_astore hC dL_modulus_17 (L' := [(4, .ref q), (0, .ref (X 0)), (1, .int b), (2, .int x), (3, .ref o)]) (by decide) rfl ?_
      refine V_iconst hC dL_modulus_19 (v := 2) (by decide) ?_
      exact V_iretA hC hQ hr (by decide) (by decide) dL_modulus_20 (Or.inl ⟨2, Or.inr (⟨rfl, hx⟩), rfl, rfl⟩)
  · refine V_swap ?_
    refine V_i2l hC dL_modulus_8 ?_
    refine V_last hC dL_modulus_9 0 0 rfl rfl (vin (by decide)) (z := 0) (by decide) (ps' := [(o, .inl (G.2.1 2, 1, .inr (.inl (vp_updL of 0 rv.toInt64))))] :: u) (rfl) ?_
    refine V_goto hC dL_modulus_10 (tgt := 21) (by decide) ?_
    refine V_iconst hC dL_modulus_21 (v := 0) (by decide) ?_
    exact V_iretA hC hQ hr (by decide) (by decide) dL_modulus_22 (Or.inr ⟨rv, u, hp, rfl, rfl⟩)
set_option maxHeartbeats 4000000 in
set_option maxRecDepth 100000 in
/-- a helper of the law -/
theorem h_row (l : Launch) (hl0 : l.stackTraces = false) (G : VG) (X : Nat → Nat) (nb nl : Nat) (du mo cl : Int32) (Z : Nat → Nat → Nat) (sz : Nat → SV) (b x : Int32) (o : Nat) (of : Nat → Int64) (hs12 : ∀ j, j < 2 → (sz j).1 ≤ 12) : Hi l G yL_row cL_row 5 [(0, 10, 13, 21), (0, 10, 17, 13)] 8 125 2 12 [.ref (X 0), .int b, .int x, .ref o] [[(o, .inl (G.2.1 2, 1, .inr (.inl (of))))], [(X 0, .inr (9, [.ref (X 1), .int (nI nb), .ref (X 2), .ref (X 6), .ref (X 8), .ref (X 10), .ref (X 14), .ref (X 18), .int (nI nl), .int du, .ref (X 19), .int mo, .ref (X 20), .int cl]))], [(X 19, .inl (G.2.1 6, 2, .inr (.inr (.inr (.inr (refA 2 Z))))))], famW 2 (fun ι => slP G (Z ι) (sz ι))] (fun r u => (∃ tt : Int32, ((tt = 1 ∧ ixB b 2 = 0) ∨ (tt = 2 ∧ ixB b 2 = 1 ∧ ¬ inR 0 2147483647 x)) ∧ r = tt ∧ u = [[(o, .inl (G.2.1 2, 1, .inr (.inl (of))))], [(X 0, .inr (9, [.ref (X 1), .int (nI nb), .ref (X 2), .ref (X 6), .ref (X 8), .ref (X 10), .ref (X 14), .ref (X 18), .int (nI nl), .int du, .ref (X 19), .int mo, .ref (X 20), .int cl]))], [(X 19, .inl (G.2.1 6, 2, .inr (.inr (.inr (.inr (refA 2 Z))))))], famW 2 (fun ι => slP G (Z ι) (sz ι))]) ∨ (∃ (rv : Int32) (v : List va_W), (fun r u => ∃ i : Nat, i < 2 ∧ b = nI i ∧ inR 0 2147483647 x ∧ r = siAt (sz i).2.2 (sz i).1 x ∧ u = [[(X 0, .inr (9, [.ref (X 1), .int (nI nb), .ref (X 2), .ref (X 6), .ref (X 8), .ref (X 10), .ref (X 14), .ref (X 18), .int (nI nl), .int du, .ref (X 19), .int mo, .ref (X 20), .int cl]))], [(X 19, .inl (G.2.1 6, 2, .inr (.inr (.inr (.inr (refA 2 Z))))))], famW 2 (fun ι => slP G (Z ι) (sz ι))]) rv v ∧ r = 0 ∧ u = [(o, .inl (G.2.1 2, 1, .inr (.inl (vp_updL of 0 rv.toInt64))))] :: v)) := by
  refine Hi_of (by decide) (Nat.le_of_ble_eq_true rfl) (fun pP eE sS mM aA bB tT cC AA QQ hC hN hT hr hQ => ?_)
  refine V_aload_n hC dL_row_0 3 rfl ?_
  refine V_iconst hC dL_row_1 (v := 0) (by decide) ?_
  refine V_aload_n hC dL_row_2 0 rfl ?_
  refine V_iload_n hC dL_row_3 1 rfl ?_
  refine V_iload_n hC dL_row_4 2 rfl ?_
  refine V_xcallV hC [.int b, .int x] (c_X8_row l hl0 G X nb nl du mo cl Z sz b x hs12) dL_row_5 q918 q604 q605 q43 q606 ⟨by decide, by decide, rfl⟩ ⟨by decide, by decide⟩ (ci := 9) rfl (mem_at 1 0 rfl rfl) rfl (Nat.le_of_ble_eq_true rfl) ⟨by decide, by decide⟩ (is := [1, 2, 3]) rfl (by decide) [0] (rs := [[(o, .inl (G.2.1 2, 1, .inr (.inl (of))))]]) rfl (by decide) (by decide) (fun E hE => ?_) (fun rv u hp => ?_)
  · rcases hE with ⟨rfl, hx⟩ | ⟨rfl, hx⟩
    · refine ⟨13, HOK_of hC hN hT [] [(0, 10, 17, 13)] (0, 10, 13, 21) rfl (fun _ h9 => absurd h9 List.not_mem_nil) (by decide) (by decide) q732 soft_cX rfl, fun q => ?_⟩
      refine V_swap ?_
      refine V_astore hC dL_row_13 (L' := [(4, .ref q), (0, .ref (X 0)), (1, .int b), (2, .int x), (3, .ref o)]) (by decide) rfl ?_
      refine V_iconst hC dL_row_15 (v := 1) (by decide) ?_
      exact V_iretA hC hQ hr (by decide) (by decide) dL_row_16 (Or.inl ⟨1, Or.inl ⟨rfl, hx⟩, rfl, rfl⟩)
    · refine ⟨17, HOK_of hC hN hT [(0, 10, 13, 21)] [] (0, 10, 17, 13) rfl (List.forall_mem_cons.mpr ⟨⟨by decide, _, q732, by decide +kernel⟩, fun _ h9 => absurd h9 List.not_mem_nil⟩) (by decide) (by decide) q718 soft_cA rfl, fun q => ?_⟩
      refine V_swap ?_
      refine V_astore hC dL_row_17 (L' := [(4, .ref q), (0, .ref (X 0)), (1, .int b), (2, .int x), (3, .ref o)]) (by decide) rfl ?_
      refine V_iconst hC dL_row_19 (v := 2) (by decide) ?_
      exact V_iretA hC hQ hr (by decide) (by decide) dL_row_20 (Or.inl ⟨2, Or.inr (⟨rfl, hx⟩), rfl, rfl⟩)
  · refine V_swap ?_
    refine V_i2l hC dL_row_8 ?_
    refine V_last hC dL_row_9 0 0 rfl rfl (vin (by decide)) (z := 0) (by decide) (ps' := [(o, .inl (G.2.1 2, 1, .inr (.inl (vp_updL of 0 rv.toInt64))))] :: u) (rfl) ?_
    refine V_goto hC dL_row_10 (tgt := 21) (by decide) ?_
    refine V_iconst hC dL_row_21 (v := 0) (by decide) ?_
    exact V_iretA hC hQ hr (by decide) (by decide) dL_row_22 (Or.inr ⟨rv, u, hp, rfl, rfl⟩)
set_option maxHeartbeats 4000000 in
set_option maxRecDepth 100000 in
/-- a helper of the law -/
theorem h_many (l : Launch) (hl0 : l.stackTraces = false) (G : VG) (X : Nat → Nat) (nb nl : Nat) (du mo cl : Int32) (n : Nat) (f g h : Nat → Int32) (O : Nat → Nat) (S : KS) (Z : Nat → Nat → Nat) (sz : Nat → SV) (wn : Nat) (ws : Int32) (wf : Nat → Int32) (x : Int32) (o : Nat) (of : Nat → Int64) (hn : n ≤ 8) (hsh : ∀ j, j < 2 → (sz j).2.1 = 0 ∨ (sz j).2.1 = 1) : Hi l G yL_many cL_many 4 [(0, 9, 12, 13)] 8 125 1 6 [.ref (X 0), .int x, .ref o] [[(o, .inl (G.2.1 2, 1, .inr (.inl (of))))], [(X 0, .inr (9, [.ref (X 1), .int (nI nb), .ref (X 2), .ref (X 6), .ref (X 8), .ref (X 10), .ref (X 14), .ref (X 18), .int (nI nl), .int du, .ref (X 19), .int mo, .ref (X 20), .int cl]))], [(X 2, .inr (6, [.int (nI n), .ref (X 3), .ref (X 4), .ref (X 5)]))], [(X 3, .inl (G.2.1 0, 8, .inl f))], [(X 4, .inl (G.2.1 0, 8, .inl g))], [(X 5, .inl (G.2.1 0, 8, .inl h))], [(X 10, .inr (3, [.ref (X 11), .ref (X 12), .ref (X 13), .int (nI S.2.1), .ref (O 0), .int (S.1 0), .int (S.1 1), .int (S.1 2), .int (S.1 3), .int (S.1 4), .int (S.1 5), .int (S.1 6)]))], [(X 19, .inl (G.2.1 6, 2, .inr (.inr (.inr (.inr (refA 2 Z))))))], famW 2 (fun ι => slP G (Z ι) (sz ι)), [(X 20, .inr (8, [.ref (X 21), .int (nI wn), .int ws]))], [(X 21, .inl (G.2.1 0, 6, .inl wf))]] (fun r u => (∃ tt : Int32, ((tt = 1 ∧ ¬ inR 0 17 x)) ∧ r = tt ∧ u = [[(o, .inl (G.2.1 2, 1, .inr (.inl (of))))], [(X 0, .inr (9, [.ref (X 1), .int (nI nb), .ref (X 2), .ref (X 6), .ref (X 8), .ref (X 10), .ref (X 14), .ref (X 18), .int (nI nl), .int du, .ref (X 19), .int mo, .ref (X 20), .int cl]))], [(X 2, .inr (6, [.int (nI n), .ref (X 3), .ref (X 4), .ref (X 5)]))], [(X 3, .inl (G.2.1 0, 8, .inl f))], [(X 4, .inl (G.2.1 0, 8, .inl g))], [(X 5, .inl (G.2.1 0, 8, .inl h))], [(X 10, .inr (3, [.ref (X 11), .ref (X 12), .ref (X 13), .int (nI S.2.1), .ref (O 0), .int (S.1 0), .int (S.1 1), .int (S.1 2), .int (S.1 3), .int (S.1 4), .int (S.1 5), .int (S.1 6)]))], [(X 19, .inl (G.2.1 6, 2, .inr (.inr (.inr (.inr (refA 2 Z))))))], famW 2 (fun ι => slP G (Z ι) (sz ι)), [(X 20, .inr (8, [.ref (X 21), .int (nI wn), .int ws]))], [(X 21, .inl (G.2.1 0, 6, .inl wf))]]) ∨ (∃ (rv : Int32) (v : List va_W), (fun r u => ∃ w : Nat, w ≤ 17 ∧ x = nI w ∧ r = qMany nb n nl g S du mo cl wn sz ws w ∧ u = [[(X 0, .inr (9, [.ref (X 1), .int (nI nb), .ref (X 2), .ref (X 6), .ref (X 8), .ref (X 10), .ref (X 14), .ref (X 18), .int (nI nl), .int du, .ref (X 19), .int mo, .ref (X 20), .int cl]))], [(X 2, .inr (6, [.int (nI n), .ref (X 3), .ref (X 4), .ref (X 5)]))], [(X 3, .inl (G.2.1 0, 8, .inl f))], [(X 4, .inl (G.2.1 0, 8, .inl g))], [(X 5, .inl (G.2.1 0, 8, .inl h))], [(X 10, .inr (3, [.ref (X 11), .ref (X 12), .ref (X 13), .int (nI S.2.1), .ref (O 0), .int (S.1 0), .int (S.1 1), .int (S.1 2), .int (S.1 3), .int (S.1 4), .int (S.1 5), .int (S.1 6)]))], [(X 19, .inl (G.2.1 6, 2, .inr (.inr (.inr (.inr (refA 2 Z))))))], famW 2 (fun ι => slP G (Z ι) (sz ι)), [(X 20, .inr (8, [.ref (X 21), .int (nI wn), .int ws]))], [(X 21, .inl (G.2.1 0, 6, .inl wf))]]) rv v ∧ r = 0 ∧ u = [(o, .inl (G.2.1 2, 1, .inr (.inl (vp_updL of 0 rv.toInt64))))] :: v)) := by
  refine Hi_of (by decide) (Nat.le_of_ble_eq_true rfl) (fun pP eE sS mM aA bB tT cC AA QQ hC hN hT hr hQ => ?_)
  refine V_aload_n hC dL_many_0 2 rfl ?_
  refine V_iconst hC dL_many_1 (v := 0) (by decide) ?_
  refine V_aload_n hC dL_many_2 0 rfl ?_
  refine V_iload_n hC dL_many_3 1 rfl ?_
  refine V_xcallV hC [.int x] (c_X8_many l hl0 G X nb nl du mo cl n f g h O S Z sz wn ws wf x hn hsh) dL_many_4 q922 q387 q388 q43 q389 ⟨by decide, by decide, rfl⟩ ⟨by decide, by decide⟩ (ci := 9) rfl (mem_at 1 0 rfl rfl) rfl (Nat.le_of_ble_eq_true rfl) ⟨by decide, by decide⟩ (is := [1, 2, 3, 4, 5, 6, 7, 8, 9, 10]) rfl (by decide) [0] (rs := [[(o, .inl (G.2.1 2, 1, .inr (.inl (of))))]]) rfl (by decide) (by decide) (fun E hE => ?_) (fun rv u hp => ?_)
  · rcases hE with ⟨rfl, hx⟩
    · refine ⟨12, HOK_of hC hN hT [] [] (0, 9, 12, 13) rfl (fun _ h9 => absurd h9 List.not_mem_nil) (by decide) (by decide) q718 soft_cA rfl, fun q => ?_⟩
      refine V_swap ?_
      refine V_astore_n hC dL_many_12 (L' := [(3, .ref q), (0, .ref (X 0)), (1, .int x), (2, .ref o)]) (by decide) rfl ?_
      refine V_iconst hC dL_many_13 (v := 1) (by decide) ?_
      exact V_iretA hC hQ hr (by decide) (by decide) dL_many_14 (Or.inl ⟨1, ⟨rfl, hx⟩, rfl, rfl⟩)
  · refine V_swap ?_
    refine V_i2l hC dL_many_7 ?_
    refine V_last hC dL_many_8 0 0 rfl rfl (vin (by decide)) (z := 0) (by decide) (ps' := [(o, .inl (G.2.1 2, 1, .inr (.inl (vp_updL of 0 rv.toInt64))))] :: u) (rfl) ?_
    refine V_goto hC dL_many_9 (tgt := 15) (by decide) ?_
    refine V_iconst hC dL_many_15 (v := 0) (by decide) ?_
    exact V_iretA hC hQ hr (by decide) (by decide) dL_many_16 (Or.inr ⟨rv, u, hp, rfl, rfl⟩)
set_option maxHeartbeats 4000000 in
set_option maxRecDepth 100000 in
/-- a helper of the law -/
theorem h_thought (l : Launch) (hl0 : l.stackTraces = false) (G : VG) (X : Nat → Nat) (nb nl : Nat) (du mo cl : Int32) (T : Nat → Nat → Nat) (lz : Nat → LV) (b : Int32) (o : Nat) (of : Nat → Int64) (hnl : nl ≤ 12) : Hi l G yL_thought cL_thought 4 [(0, 9, 12, 21), (0, 9, 15, 15)] 8 124 2 12 [.ref (X 0), .int b, .ref o] [[(o, .inl (G.2.1 2, 1, .inr (.inl (of))))], [(X 0, .inr (9, [.ref (X 1), .int (nI nb), .ref (X 2), .ref (X 6), .ref (X 8), .ref (X 10), .ref (X 14), .ref (X 18), .int (nI nl), .int du, .ref (X 19), .int mo, .ref (X 20), .int cl]))], [(X 18, .inl (G.2.1 5, 12, .inr (.inr (.inr (.inr (refA 12 T))))))], famW 12 (fun ι => ltP G (T ι) (lz ι))] (fun r u => (∃ tt : Int32, ((tt = 1 ∧ ixB b (nI nl) = 0) ∨ (tt = 2 ∧ ixB b (nI nl) = 1 ∧ ltGr ((lz b.toNatClampNeg).2.1 1) = 0)) ∧ r = tt ∧ u = [[(o, .inl (G.2.1 2, 1, .inr (.inl (of))))], [(X 0, .inr (9, [.ref (X 1), .int (nI nb), .ref (X 2), .ref (X 6), .ref (X 8), .ref (X 10), .ref (X 14), .ref (X 18), .int (nI nl), .int du, .ref (X 19), .int mo, .ref (X 20), .int cl]))], [(X 18, .inl (G.2.1 5, 12, .inr (.inr (.inr (.inr (refA 12 T))))))], famW 12 (fun ι => ltP G (T ι) (lz ι))]) ∨ (∃ (rv : Int32) (v : List va_W), (fun r u => ∃ i : Nat, i < nl ∧ b = nI i ∧ ¬ ltGr ((lz i).2.1 1) = 0 ∧ r = (lz i).2.1 1 + ugR lz i nl ∧ u = [[(X 0, .inr (9, [.ref (X 1), .int (nI nb), .ref (X 2), .ref (X 6), .ref (X 8), .ref (X 10), .ref (X 14), .ref (X 18), .int (nI nl), .int du, .ref (X 19), .int mo, .ref (X 20), .int cl]))], [(X 18, .inl (G.2.1 5, 12, .inr (.inr (.inr (.inr (refA 12 T))))))], famW 12 (fun ι => ltP G (T ι) (lz ι))]) rv v ∧ r = 0 ∧ u = [(o, .inl (G.2.1 2, 1, .inr (.inl (vp_updL of 0 rv.toInt64))))] :: v)) := by
  refine Hi_of (by decide) (Nat.le_of_ble_eq_true rfl) (fun pP eE sS mM aA bB tT cC AA QQ hC hN hT hr hQ => ?_)
  refine V_aload_n hC dL_thought_0 2 rfl ?_
  refine V_iconst hC dL_thought_1 (v := 0) (by decide) ?_
  refine V_aload_n hC dL_thought_2 0 rfl ?_
  refine V_iload_n hC dL_thought_3 1 rfl ?_
  refine V_xcallV hC [.int b] (c_X8_thought l hl0 G X nb nl du mo cl T lz b hnl) dL_thought_4 q926 q573 q574 q43 q575 ⟨by decide, by decide, rfl⟩ ⟨by decide, by decide⟩ (ci := 9) rfl (mem_at 1 0 rfl rfl) rfl (Nat.le_of_ble_eq_true rfl) ⟨by decide, by decide⟩ (is := [1, 2, 3]) rfl (by decide) [0] (rs := [[(o, .inl (G.2.1 2, 1, .inr (.inl (of))))]]) rfl (by decide) (by decide) (fun E hE => ?_) (fun rv u hp => ?_)
  · rcases hE with ⟨rfl, hx⟩ | ⟨rfl, hx⟩
    · refine ⟨12, HOK_of hC hN hT [] [(0, 9, 15, 15)] (0, 9, 12, 21) rfl (fun _ h9 => absurd h9 List.not_mem_nil) (by decide) (by decide) q732 soft_cX rfl, fun q => ?_⟩
      refine V_swap ?_
      refine V_astore_n hC dL_thought_12 (L' := [(3, .ref q), (0, .ref (X 0)), (1, .int b), (2, .ref o)]) (by decide) rfl ?_
      refine V_iconst hC dL_thought_13 (v := 1) (by decide) ?_
      exact V_iretA hC hQ hr (by decide) (by decide) dL_thought_14 (Or.inl ⟨1, Or.inl ⟨rfl, hx⟩, rfl, rfl⟩)
    · refine ⟨15, HOK_of hC hN hT [(0, 9, 12, 21)] [] (0, 9, 15, 15) rfl (List.forall_mem_cons.mpr ⟨⟨by decide, _, q732, by decide +kernel⟩, fun _ h9 => absurd h9 List.not_mem_nil⟩) (by decide) (by decide) q719 soft_cT rfl, fun q => ?_⟩
      refine V_swap ?_
      refine V_astore_n hC dL_thought_15 (L' := [(3, .ref q), (0, .ref (X 0)), (1, .int b), (2, .ref o)]) (by decide) rfl ?_
      refine V_iconst hC dL_thought_16 (v := 2) (by decide) ?_
      exact V_iretA hC hQ hr (by decide) (by decide) dL_thought_17 (Or.inl ⟨2, Or.inr (⟨rfl, hx⟩), rfl, rfl⟩)
  · refine V_swap ?_
    refine V_i2l hC dL_thought_7 ?_
    refine V_last hC dL_thought_8 0 0 rfl rfl (vin (by decide)) (z := 0) (by decide) (ps' := [(o, .inl (G.2.1 2, 1, .inr (.inl (vp_updL of 0 rv.toInt64))))] :: u) (rfl) ?_
    refine V_goto hC dL_thought_9 (tgt := 18) (by decide) ?_
    refine V_iconst hC dL_thought_18 (v := 0) (by decide) ?_
    exact V_iretA hC hQ hr (by decide) (by decide) dL_thought_19 (Or.inr ⟨rv, u, hp, rfl, rfl⟩)
set_option maxHeartbeats 4000000 in
set_option maxRecDepth 100000 in
/-- a helper of the law -/
theorem h_bestCharge (l : Launch) (hl0 : l.stackTraces = false) (G : VG) (X : Nat → Nat) (nb nl : Nat) (du mo cl : Int32) (B : Nat → Nat → Nat) (bz : Nat → BV) (n : Nat) (f g h : Nat → Int32) (cm tm : Nat → Int32) (x : Int32) (o : Nat) (of : Nat → Int64) (hnb : nb ≤ 6) (hn : n ≤ 8) (hf : ∀ j, j < n → ∃ v : Nat, v < nb ∧ f j = nI v) : Hi l G yL_bestCharge cL_bestCharge 4 [(0, 9, 12, 13), (0, 9, 15, 15)] 8 131 3 18 [.ref (X 0), .int x, .ref o] [[(o, .inl (G.2.1 2, 1, .inr (.inl (of))))], [(X 0, .inr (9, [.ref (X 1), .int (nI nb), .ref (X 2), .ref (X 6), .ref (X 8), .ref (X 10), .ref (X 14), .ref (X 18), .int (nI nl), .int du, .ref (X 19), .int mo, .ref (X 20), .int cl]))], [(X 1, .inl (G.2.1 3, 6, .inr (.inr (.inr (.inr (refA 6 B))))))], famW 6 (fun ι => bkP G (B ι) (bz ι)), [(X 2, .inr (6, [.int (nI n), .ref (X 3), .ref (X 4), .ref (X 5)]))], [(X 3, .inl (G.2.1 0, 8, .inl f))], [(X 4, .inl (G.2.1 0, 8, .inl g))], [(X 5, .inl (G.2.1 0, 8, .inl h))], [(X 6, .inr (5, [.ref (X 7)]))], [(X 7, .inl (G.2.1 0, 4, .inl cm))], [(X 8, .inr (5, [.ref (X 9)]))], [(X 9, .inl (G.2.1 0, 4, .inl tm))]] (fun r u => (∃ tt : Int32, ((tt = 1 ∧ ¬ inR 1 9 x) ∨ (tt = 2 ∧ inR 1 9 x ∧ sm g n < x)) ∧ r = tt ∧ u = [[(o, .inl (G.2.1 2, 1, .inr (.inl (of))))], [(X 0, .inr (9, [.ref (X 1), .int (nI nb), .ref (X 2), .ref (X 6), .ref (X 8), .ref (X 10), .ref (X 14), .ref (X 18), .int (nI nl), .int du, .ref (X 19), .int mo, .ref (X 20), .int cl]))], [(X 1, .inl (G.2.1 3, 6, .inr (.inr (.inr (.inr (refA 6 B))))))], famW 6 (fun ι => bkP G (B ι) (bz ι)), [(X 2, .inr (6, [.int (nI n), .ref (X 3), .ref (X 4), .ref (X 5)]))], [(X 3, .inl (G.2.1 0, 8, .inl f))], [(X 4, .inl (G.2.1 0, 8, .inl g))], [(X 5, .inl (G.2.1 0, 8, .inl h))], [(X 6, .inr (5, [.ref (X 7)]))], [(X 7, .inl (G.2.1 0, 4, .inl cm))], [(X 8, .inr (5, [.ref (X 9)]))], [(X 9, .inl (G.2.1 0, 4, .inl tm))]]) ∨ (∃ (rv : Int32) (v : List va_W), (fun r u => ∃ (c : Nat) (y : Int32) (tn : Nat → Int32), 1 ≤ c ∧ c ≤ 9 ∧ x = nI c ∧ ¬ sm g n < nI c ∧ bstR (mcF bz f (soAll g h n c) cm n) y ∧ y = r ∧ u = [[(X 0, .inr (9, [.ref (X 1), .int (nI nb), .ref (X 2), .ref (X 6), .ref (X 8), .ref (X 10), .ref (X 14), .ref (X 18), .int (nI nl), .int du, .ref (X 19), .int mo, .ref (X 20), .int cl]))], [(X 1, .inl (G.2.1 3, 6, .inr (.inr (.inr (.inr (refA 6 B))))))], famW 6 (fun ι => bkP G (B ι) (bz ι)), [(X 2, .inr (6, [.int (nI n), .ref (X 3), .ref (X 4), .ref (X 5)]))], [(X 3, .inl (G.2.1 0, 8, .inl f))], [(X 4, .inl (G.2.1 0, 8, .inl g))], [(X 5, .inl (G.2.1 0, 8, .inl (soAll g h n c)))], [(X 6, .inr (5, [.ref (X 7)]))], [(X 7, .inl (G.2.1 0, 4, .inl (mcF bz f (soAll g h n c) cm n)))], [(X 8, .inr (5, [.ref (X 9)]))], [(X 9, .inl (G.2.1 0, 4, .inl tn))]]) rv v ∧ r = 0 ∧ u = [(o, .inl (G.2.1 2, 1, .inr (.inl (vp_updL of 0 rv.toInt64))))] :: v)) := by
  refine Hi_of (by decide) (Nat.le_of_ble_eq_true rfl) (fun pP eE sS mM aA bB tT cC AA QQ hC hN hT hr hQ => ?_)
  refine V_aload_n hC dL_bestCharge_0 2 rfl ?_
  refine V_iconst hC dL_bestCharge_1 (v := 0) (by decide) ?_
  refine V_aload_n hC dL_bestCharge_2 0 rfl ?_
  refine V_iload_n hC dL_bestCharge_3 1 rfl ?_
  refine V_xcallV hC [.int x] (c_X8_bestCharge l hl0 G X nb nl du mo cl B bz n f g h cm tm x hnb hn hf) dL_bestCharge_4 q930 q615 q616 q43 q617 ⟨by decide, by decide, rfl⟩ ⟨by decide, by decide⟩ (ci := 9) rfl (mem_at 1 0 rfl rfl) rfl (Nat.le_of_ble_eq_true rfl) ⟨by decide, by decide⟩ (is := [1, 2, 3, 4, 5, 6, 7, 8, 9, 10, 11]) rfl (by decide) [0] (rs := [[(o, .inl (G.2.1 2, 1, .inr (.inl (of))))]]) rfl (by decide) (by decide) (fun E hE => ?_) (fun rv u hp => ?_)
  · rcases hE with ⟨rfl, hx⟩ | ⟨rfl, hx⟩
    · refine ⟨12, HOK_of hC hN hT [] [(0, 9, 15, 15)] (0, 9, 12, 13) rfl (fun _ h9 => absurd h9 List.not_mem_nil) (by decide) (by decide) q718 soft_cA rfl, fun q => ?_⟩
      refine V_swap ?_
      refine V_astore_n hC dL_bestCharge_12 (L' := [(3, .ref q), (0, .ref (X 0)), (1, .int x), (2, .ref o)]) (by decide) rfl ?_
      refine V_iconst hC dL_bestCharge_13 (v := 1) (by decide) ?_
      exact V_iretA hC hQ hr (by decide) (by decide) dL_bestCharge_14 (Or.inl ⟨1, Or.inl ⟨rfl, hx⟩, rfl, rfl⟩)
    · refine ⟨15, HOK_of hC hN hT [(0, 9, 12, 13)] [] (0, 9, 15, 15) rfl (List.forall_mem_cons.mpr ⟨⟨by decide, _, q718, by decide +kernel⟩, fun _ h9 => absurd h9 List.not_mem_nil⟩) (by decide) (by decide) q719 soft_cT rfl, fun q => ?_⟩
      refine V_swap ?_
      refine V_astore_n hC dL_bestCharge_15 (L' := [(3, .ref q), (0, .ref (X 0)), (1, .int x), (2, .ref o)]) (by decide) rfl ?_
      refine V_iconst hC dL_bestCharge_16 (v := 2) (by decide) ?_
      exact V_iretA hC hQ hr (by decide) (by decide) dL_bestCharge_17 (Or.inl ⟨2, Or.inr (⟨rfl, hx⟩), rfl, rfl⟩)
  · refine V_swap ?_
    refine V_i2l hC dL_bestCharge_7 ?_
    refine V_last hC dL_bestCharge_8 0 0 rfl rfl (vin (by decide)) (z := 0) (by decide) (ps' := [(o, .inl (G.2.1 2, 1, .inr (.inl (vp_updL of 0 rv.toInt64))))] :: u) (rfl) ?_
    refine V_goto hC dL_bestCharge_9 (tgt := 18) (by decide) ?_
    refine V_iconst hC dL_bestCharge_18 (v := 0) (by decide) ?_
    exact V_iretA hC hQ hr (by decide) (by decide) dL_bestCharge_19 (Or.inr ⟨rv, u, hp, rfl, rfl⟩)
set_option maxHeartbeats 4000000 in
set_option maxRecDepth 100000 in
/-- a helper of the law -/
theorem h_freeAfter (l : Launch) (hl0 : l.stackTraces = false) (G : VG) (X : Nat → Nat) (nb nl : Nat) (du mo cl : Int32) (C W : Nat → Nat → Nat) (O : Nat → Nat) (S : KS) (Ct Wt : Nat → Nat → Nat) (Ot : Nat → Nat) (St : KS) (x f : Int32) (o : Nat) (of : Nat → Int64) (hw : kwf S) (ho : trOk St) : Hi l G yL_freeAfter cL_freeAfter 5 [(0, 10, 13, 13)] 8 128 2 12 [.ref (X 0), .int x, .int f, .ref o] [[(o, .inl (G.2.1 2, 1, .inr (.inl (of))))], [(X 0, .inr (9, [.ref (X 1), .int (nI nb), .ref (X 2), .ref (X 6), .ref (X 8), .ref (X 10), .ref (X 14), .ref (X 18), .int (nI nl), .int du, .ref (X 19), .int mo, .ref (X 20), .int cl]))], [(X 10, .inr (3, [.ref (X 11), .ref (X 12), .ref (X 13), .int (nI S.2.1), .ref (O 0), .int (S.1 0), .int (S.1 1), .int (S.1 2), .int (S.1 3), .int (S.1 4), .int (S.1 5), .int (S.1 6)]))], [(X 11, .inl (G.2.1 4, 5, .inr (.inr (.inr (.inr (refA 5 C))))))], [(X 12, .inl (G.2.1 0, 5, .inl S.2.2.2.2.2))], [(X 13, .inl (G.2.1 4, 3, .inr (.inr (.inr (.inr (refA 3 W))))))], famW 5 (fun ι => chP G (C ι) (S.2.2.1 ι)), famW 3 (fun ι => chP G (W ι) (S.2.2.2.1 ι)), chP G O S.2.2.2.2.1, [(X 14, .inr (3, [.ref (X 15), .ref (X 16), .ref (X 17), .int (nI St.2.1), .ref (Ot 0), .int (St.1 0), .int (St.1 1), .int (St.1 2), .int (St.1 3), .int (St.1 4), .int (St.1 5), .int (St.1 6)]))], [(X 15, .inl (G.2.1 4, 5, .inr (.inr (.inr (.inr (refA 5 Ct))))))], [(X 16, .inl (G.2.1 0, 5, .inl St.2.2.2.2.2))], [(X 17, .inl (G.2.1 4, 3, .inr (.inr (.inr (.inr (refA 3 Wt))))))], famW 5 (fun ι => chP G (Ct ι) (St.2.2.1 ι)), famW 3 (fun ι => chP G (Wt ι) (St.2.2.2.1 ι)), chP G Ot St.2.2.2.2.1] (fun r u => (∃ tt : Int32, ((tt = 1 ∧ ¬ (inR 1 12 x ∧ inR 0 9 f))) ∧ r = tt ∧ u = [[(o, .inl (G.2.1 2, 1, .inr (.inl (of))))], [(X 0, .inr (9, [.ref (X 1), .int (nI nb), .ref (X 2), .ref (X 6), .ref (X 8), .ref (X 10), .ref (X 14), .ref (X 18), .int (nI nl), .int du, .ref (X 19), .int mo, .ref (X 20), .int cl]))], [(X 10, .inr (3, [.ref (X 11), .ref (X 12), .ref (X 13), .int (nI S.2.1), .ref (O 0), .int (S.1 0), .int (S.1 1), .int (S.1 2), .int (S.1 3), .int (S.1 4), .int (S.1 5), .int (S.1 6)]))], [(X 11, .inl (G.2.1 4, 5, .inr (.inr (.inr (.inr (refA 5 C))))))], [(X 12, .inl (G.2.1 0, 5, .inl S.2.2.2.2.2))], [(X 13, .inl (G.2.1 4, 3, .inr (.inr (.inr (.inr (refA 3 W))))))], famW 5 (fun ι => chP G (C ι) (S.2.2.1 ι)), famW 3 (fun ι => chP G (W ι) (S.2.2.2.1 ι)), chP G O S.2.2.2.2.1, [(X 14, .inr (3, [.ref (X 15), .ref (X 16), .ref (X 17), .int (nI St.2.1), .ref (Ot 0), .int (St.1 0), .int (St.1 1), .int (St.1 2), .int (St.1 3), .int (St.1 4), .int (St.1 5), .int (St.1 6)]))], [(X 15, .inl (G.2.1 4, 5, .inr (.inr (.inr (.inr (refA 5 Ct))))))], [(X 16, .inl (G.2.1 0, 5, .inl St.2.2.2.2.2))], [(X 17, .inl (G.2.1 4, 3, .inr (.inr (.inr (.inr (refA 3 Wt))))))], famW 5 (fun ι => chP G (Ct ι) (St.2.2.1 ι)), famW 3 (fun ι => chP G (Wt ι) (St.2.2.2.1 ι)), chP G Ot St.2.2.2.2.1]) ∨ (∃ (rv : Int32) (v : List va_W), (fun r u => ∃ (k : Nat) (Cn Wn : Nat → Nat → Nat) (On : Nat → Nat) (Sn : KS), 1 ≤ k ∧ k ≤ 12 ∧ x = nI k ∧ inR 0 9 f ∧ trOk Sn ∧ r = faI (trS St S f) k ∧ u = [[(X 0, .inr (9, [.ref (X 1), .int (nI nb), .ref (X 2), .ref (X 6), .ref (X 8), .ref (X 10), .ref (X 14), .ref (X 18), .int (nI nl), .int du, .ref (X 19), .int mo, .ref (X 20), .int cl]))], [(X 10, .inr (3, [.ref (X 11), .ref (X 12), .ref (X 13), .int (nI S.2.1), .ref (O 0), .int (S.1 0), .int (S.1 1), .int (S.1 2), .int (S.1 3), .int (S.1 4), .int (S.1 5), .int (S.1 6)]))], [(X 11, .inl (G.2.1 4, 5, .inr (.inr (.inr (.inr (refA 5 C))))))], [(X 12, .inl (G.2.1 0, 5, .inl S.2.2.2.2.2))], [(X 13, .inl (G.2.1 4, 3, .inr (.inr (.inr (.inr (refA 3 W))))))], famW 5 (fun ι => chP G (C ι) (S.2.2.1 ι)), famW 3 (fun ι => chP G (W ι) (S.2.2.2.1 ι)), chP G O S.2.2.2.2.1, [(X 14, .inr (3, [.ref (X 15), .ref (X 16), .ref (X 17), .int (nI Sn.2.1), .ref (On 0), .int (Sn.1 0), .int (Sn.1 1), .int (Sn.1 2), .int (Sn.1 3), .int (Sn.1 4), .int (Sn.1 5), .int (Sn.1 6)]))], [(X 15, .inl (G.2.1 4, 5, .inr (.inr (.inr (.inr (refA 5 Cn))))))], [(X 16, .inl (G.2.1 0, 5, .inl Sn.2.2.2.2.2))], [(X 17, .inl (G.2.1 4, 3, .inr (.inr (.inr (.inr (refA 3 Wn))))))], famW 5 (fun ι => chP G (Cn ι) (Sn.2.2.1 ι)), famW 3 (fun ι => chP G (Wn ι) (Sn.2.2.2.1 ι)), chP G On Sn.2.2.2.2.1]) rv v ∧ r = 0 ∧ u = [(o, .inl (G.2.1 2, 1, .inr (.inl (vp_updL of 0 rv.toInt64))))] :: v)) := by
  refine Hi_of (by decide) (Nat.le_of_ble_eq_true rfl) (fun pP eE sS mM aA bB tT cC AA QQ hC hN hT hr hQ => ?_)
  refine V_aload_n hC dL_freeAfter_0 3 rfl ?_
  refine V_iconst hC dL_freeAfter_1 (v := 0) (by decide) ?_
  refine V_aload_n hC dL_freeAfter_2 0 rfl ?_
  refine V_iload_n hC dL_freeAfter_3 1 rfl ?_
  refine V_iload_n hC dL_freeAfter_4 2 rfl ?_
  refine V_xcallV hC [.int x, .int f] (c_X8_freeAfter l hl0 G X nb nl du mo cl C W O S Ct Wt Ot St x f hw ho) dL_freeAfter_5 q934 q661 q662 q43 q663 ⟨by decide, by decide, rfl⟩ ⟨by decide, by decide⟩ (ci := 9) rfl (mem_at 1 0 rfl rfl) rfl (Nat.le_of_ble_eq_true rfl) ⟨by decide, by decide⟩ (is := [1, 2, 3, 4, 5, 6, 7, 8, 9, 10, 11, 12, 13, 14, 15]) rfl (by decide) [0] (rs := [[(o, .inl (G.2.1 2, 1, .inr (.inl (of))))]]) rfl (by decide) (by decide) (fun E hE => ?_) (fun rv u hp => ?_)
  · rcases hE with ⟨rfl, hx⟩
    · refine ⟨13, HOK_of hC hN hT [] [] (0, 10, 13, 13) rfl (fun _ h9 => absurd h9 List.not_mem_nil) (by decide) (by decide) q718 soft_cA rfl, fun q => ?_⟩
      refine V_swap ?_
      refine V_astore hC dL_freeAfter_13 (L' := [(4, .ref q), (0, .ref (X 0)), (1, .int x), (2, .int f), (3, .ref o)]) (by decide) rfl ?_
      refine V_iconst hC dL_freeAfter_15 (v := 1) (by decide) ?_
      exact V_iretA hC hQ hr (by decide) (by decide) dL_freeAfter_16 (Or.inl ⟨1, ⟨rfl, hx⟩, rfl, rfl⟩)
  · refine V_swap ?_
    refine V_i2l hC dL_freeAfter_8 ?_
    refine V_last hC dL_freeAfter_9 0 0 rfl rfl (vin (by decide)) (z := 0) (by decide) (ps' := [(o, .inl (G.2.1 2, 1, .inr (.inl (vp_updL of 0 rv.toInt64))))] :: u) (rfl) ?_
    refine V_goto hC dL_freeAfter_10 (tgt := 17) (by decide) ?_
    refine V_iconst hC dL_freeAfter_17 (v := 0) (by decide) ?_
    exact V_iretA hC hQ hr (by decide) (by decide) dL_freeAfter_18 (Or.inr ⟨rv, u, hp, rfl, rfl⟩)
set_option maxHeartbeats 4000000 in
set_option maxRecDepth 100000 in
/-- a helper of the law -/
theorem h_letFall (l : Launch) (hl0 : l.stackTraces = false) (G : VG) (X : Nat → Nat) (nb nl : Nat) (du mo cl : Int32) (C W : Nat → Nat → Nat) (O : Nat → Nat) (S : KS) (Ct Wt : Nat → Nat → Nat) (Ot : Nat → Nat) (St : KS) (x : Int32) (o : Nat) (of : Nat → Int64) (hw : kwf S) (ho : trOk St) : Hi l G yL_letFall cL_letFall 4 [(0, 9, 12, 13)] 8 131 1 6 [.ref (X 0), .int x, .ref o] [[(o, .inl (G.2.1 2, 1, .inr (.inl (of))))], [(X 0, .inr (9, [.ref (X 1), .int (nI nb), .ref (X 2), .ref (X 6), .ref (X 8), .ref (X 10), .ref (X 14), .ref (X 18), .int (nI nl), .int du, .ref (X 19), .int mo, .ref (X 20), .int cl]))], [(X 10, .inr (3, [.ref (X 11), .ref (X 12), .ref (X 13), .int (nI S.2.1), .ref (O 0), .int (S.1 0), .int (S.1 1), .int (S.1 2), .int (S.1 3), .int (S.1 4), .int (S.1 5), .int (S.1 6)]))], [(X 11, .inl (G.2.1 4, 5, .inr (.inr (.inr (.inr (refA 5 C))))))], [(X 12, .inl (G.2.1 0, 5, .inl S.2.2.2.2.2))], [(X 13, .inl (G.2.1 4, 3, .inr (.inr (.inr (.inr (refA 3 W))))))], famW 5 (fun ι => chP G (C ι) (S.2.2.1 ι)), famW 3 (fun ι => chP G (W ι) (S.2.2.2.1 ι)), chP G O S.2.2.2.2.1, [(X 14, .inr (3, [.ref (X 15), .ref (X 16), .ref (X 17), .int (nI St.2.1), .ref (Ot 0), .int (St.1 0), .int (St.1 1), .int (St.1 2), .int (St.1 3), .int (St.1 4), .int (St.1 5), .int (St.1 6)]))], [(X 15, .inl (G.2.1 4, 5, .inr (.inr (.inr (.inr (refA 5 Ct))))))], [(X 16, .inl (G.2.1 0, 5, .inl St.2.2.2.2.2))], [(X 17, .inl (G.2.1 4, 3, .inr (.inr (.inr (.inr (refA 3 Wt))))))], famW 5 (fun ι => chP G (Ct ι) (St.2.2.1 ι)), famW 3 (fun ι => chP G (Wt ι) (St.2.2.2.1 ι)), chP G Ot St.2.2.2.2.1] (fun r u => (∃ tt : Int32, ((tt = 1 ∧ ¬ inR 1 12 x)) ∧ r = tt ∧ u = [[(o, .inl (G.2.1 2, 1, .inr (.inl (of))))], [(X 0, .inr (9, [.ref (X 1), .int (nI nb), .ref (X 2), .ref (X 6), .ref (X 8), .ref (X 10), .ref (X 14), .ref (X 18), .int (nI nl), .int du, .ref (X 19), .int mo, .ref (X 20), .int cl]))], [(X 10, .inr (3, [.ref (X 11), .ref (X 12), .ref (X 13), .int (nI S.2.1), .ref (O 0), .int (S.1 0), .int (S.1 1), .int (S.1 2), .int (S.1 3), .int (S.1 4), .int (S.1 5), .int (S.1 6)]))], [(X 11, .inl (G.2.1 4, 5, .inr (.inr (.inr (.inr (refA 5 C))))))], [(X 12, .inl (G.2.1 0, 5, .inl S.2.2.2.2.2))], [(X 13, .inl (G.2.1 4, 3, .inr (.inr (.inr (.inr (refA 3 W))))))], famW 5 (fun ι => chP G (C ι) (S.2.2.1 ι)), famW 3 (fun ι => chP G (W ι) (S.2.2.2.1 ι)), chP G O S.2.2.2.2.1, [(X 14, .inr (3, [.ref (X 15), .ref (X 16), .ref (X 17), .int (nI St.2.1), .ref (Ot 0), .int (St.1 0), .int (St.1 1), .int (St.1 2), .int (St.1 3), .int (St.1 4), .int (St.1 5), .int (St.1 6)]))], [(X 15, .inl (G.2.1 4, 5, .inr (.inr (.inr (.inr (refA 5 Ct))))))], [(X 16, .inl (G.2.1 0, 5, .inl St.2.2.2.2.2))], [(X 17, .inl (G.2.1 4, 3, .inr (.inr (.inr (.inr (refA 3 Wt))))))], famW 5 (fun ι => chP G (Ct ι) (St.2.2.1 ι)), famW 3 (fun ι => chP G (Wt ι) (St.2.2.2.1 ι)), chP G Ot St.2.2.2.2.1]) ∨ (∃ (rv : Int32) (v : List va_W), (fun r u => ∃ (k : Nat) (w : Int32) (Cn Wn : Nat → Nat → Nat) (On : Nat → Nat) (Sn : KS), 1 ≤ k ∧ k ≤ 12 ∧ x = nI k ∧ trOk Sn ∧ lfR S k w ∧ w = r ∧ u = [[(X 0, .inr (9, [.ref (X 1), .int (nI nb), .ref (X 2), .ref (X 6), .ref (X 8), .ref (X 10), .ref (X 14), .ref (X 18), .int (nI nl), .int du, .ref (X 19), .int mo, .ref (X 20), .int cl]))], [(X 10, .inr (3, [.ref (X 11), .ref (X 12), .ref (X 13), .int (nI S.2.1), .ref (O 0), .int (S.1 0), .int (S.1 1), .int (S.1 2), .int (S.1 3), .int (S.1 4), .int (S.1 5), .int (S.1 6)]))], [(X 11, .inl (G.2.1 4, 5, .inr (.inr (.inr (.inr (refA 5 C))))))], [(X 12, .inl (G.2.1 0, 5, .inl S.2.2.2.2.2))], [(X 13, .inl (G.2.1 4, 3, .inr (.inr (.inr (.inr (refA 3 W))))))], famW 5 (fun ι => chP G (C ι) (S.2.2.1 ι)), famW 3 (fun ι => chP G (W ι) (S.2.2.2.1 ι)), chP G O S.2.2.2.2.1, [(X 14, .inr (3, [.ref (X 15), .ref (X 16), .ref (X 17), .int (nI Sn.2.1), .ref (On 0), .int (Sn.1 0), .int (Sn.1 1), .int (Sn.1 2), .int (Sn.1 3), .int (Sn.1 4), .int (Sn.1 5), .int (Sn.1 6)]))], [(X 15, .inl (G.2.1 4, 5, .inr (.inr (.inr (.inr (refA 5 Cn))))))], [(X 16, .inl (G.2.1 0, 5, .inl Sn.2.2.2.2.2))], [(X 17, .inl (G.2.1 4, 3, .inr (.inr (.inr (.inr (refA 3 Wn))))))], famW 5 (fun ι => chP G (Cn ι) (Sn.2.2.1 ι)), famW 3 (fun ι => chP G (Wn ι) (Sn.2.2.2.1 ι)), chP G On Sn.2.2.2.2.1]) rv v ∧ r = 0 ∧ u = [(o, .inl (G.2.1 2, 1, .inr (.inl (vp_updL of 0 rv.toInt64))))] :: v)) := by
  refine Hi_of (by decide) (Nat.le_of_ble_eq_true rfl) (fun pP eE sS mM aA bB tT cC AA QQ hC hN hT hr hQ => ?_)
  refine V_aload_n hC dL_letFall_0 2 rfl ?_
  refine V_iconst hC dL_letFall_1 (v := 0) (by decide) ?_
  refine V_aload_n hC dL_letFall_2 0 rfl ?_
  refine V_iload_n hC dL_letFall_3 1 rfl ?_
  refine V_xcallV hC [.int x] (c_X8_letFall l hl0 G X nb nl du mo cl C W O S Ct Wt Ot St x hw ho) dL_letFall_4 q938 q708 q709 q43 q710 ⟨by decide, by decide, rfl⟩ ⟨by decide, by decide⟩ (ci := 9) rfl (mem_at 1 0 rfl rfl) rfl (Nat.le_of_ble_eq_true rfl) ⟨by decide, by decide⟩ (is := [1, 2, 3, 4, 5, 6, 7, 8, 9, 10, 11, 12, 13, 14, 15]) rfl (by decide) [0] (rs := [[(o, .inl (G.2.1 2, 1, .inr (.inl (of))))]]) rfl (by decide) (by decide) (fun E hE => ?_) (fun rv u hp => ?_)
  · rcases hE with ⟨rfl, hx⟩
    · refine ⟨12, HOK_of hC hN hT [] [] (0, 9, 12, 13) rfl (fun _ h9 => absurd h9 List.not_mem_nil) (by decide) (by decide) q718 soft_cA rfl, fun q => ?_⟩
      refine V_swap ?_
      refine V_astore_n hC dL_letFall_12 (L' := [(3, .ref q), (0, .ref (X 0)), (1, .int x), (2, .ref o)]) (by decide) rfl ?_
      refine V_iconst hC dL_letFall_13 (v := 1) (by decide) ?_
      exact V_iretA hC hQ hr (by decide) (by decide) dL_letFall_14 (Or.inl ⟨1, ⟨rfl, hx⟩, rfl, rfl⟩)
  · refine V_swap ?_
    refine V_i2l hC dL_letFall_7 ?_
    refine V_last hC dL_letFall_8 0 0 rfl rfl (vin (by decide)) (z := 0) (by decide) (ps' := [(o, .inl (G.2.1 2, 1, .inr (.inl (vp_updL of 0 rv.toInt64))))] :: u) (rfl) ?_
    refine V_goto hC dL_letFall_9 (tgt := 15) (by decide) ?_
    refine V_iconst hC dL_letFall_15 (v := 0) (by decide) ?_
    exact V_iretA hC hQ hr (by decide) (by decide) dL_letFall_16 (Or.inr ⟨rv, u, hp, rfl, rfl⟩)
