/-! ===== the law's own class: drawing, plus, pile ===== -/
theorem and_nat (x : Int32) : ∃ j : Nat, j < 2 ^ 31 ∧ x &&& 2147483647 = nI j := by
  have hm : (x &&& 2147483647).toBitVec.msb = false := by
    rw [show (x &&& 2147483647).toBitVec = x.toBitVec &&& (2147483647 : Int32).toBitVec from rfl, BitVec.msb_and, show (2147483647 : Int32).toBitVec.msb = false by decide, Bool.and_false]
  have e : (x &&& 2147483647).toInt = ((x &&& 2147483647).toBitVec.toNat : Int) := BitVec.toInt_eq_toNat_of_msb hm
  have h0 : ¬ x &&& 2147483647 < 0 := by
    intro h
    rw [Int32.lt_iff_toInt_lt, e] at h
    have z : (0 : Int32).toInt = 0 := rfl
    omega
  obtain ⟨j, hj, e2⟩ := nI_of h0
  exact ⟨j, by omega, e2⟩
set_option maxHeartbeats 4000000 in
set_option maxRecDepth 100000 in
/-- ClinkerWorksLaw.cell -/
theorem c_L_cell (l : Launch) (G : VG) (j : Nat) (hj : j ≤ 1000) : Mi l G yL_cell cL_cell 2 .int 0 0 0 0 [.ref (G.2.2 1), .int (nI j)] [] (fun r u => ∃ x : Int32, x = r ∧ u = []) := by
  refine Mi_of (by decide) (Nat.le_of_ble_eq_true rfl) (fun pP eE sS mM aA bB tT cC AA QQ hC hr hnm hQ => ?_)
  refine V_iload_n hC dL_cell_0 1 rfl ?_
  refine V_aload_n hC dL_cell_1 0 rfl ?_
  refine V_slen hC dL_cell_2 ?_
  refine V_icmp_ge hC dL_cell_3 (tgt := 12) (by decide) (fun h1 => ?_) (fun h1 => ?_)
  · have hge := h1
    refine V_ldc hC dL_cell_12 q750 ?_
    refine V_iload_n hC dL_cell_14 1 rfl ?_
    refine V_iconst hC dL_cell_15 (v := 3) (by decide) ?_
    refine V_iadd hC dL_cell_16 ?_
    refine V_imul hC dL_cell_17 ?_
    exact V_iret hC hQ hr [] (u := []) (by decide) rfl (by decide) (by decide) dL_cell_18 (⟨_, rfl, rfl⟩)
  · have hL9 := hC.sT.2.1.2
    have hlt : j < G.2.2 2 := nnle h1
    refine V_aload_n hC dL_cell_6 0 rfl ?_
    refine V_iload_n hC dL_cell_7 1 rfl ?_
    refine V_sil hC dL_cell_8 (vp_in_nI (by omega) (by omega)) (fun x2 => ?_)
    refine V_goto hC dL_cell_9 (tgt := 18) (by decide) ?_
    exact V_iret hC hQ hr [] (u := []) (by decide) rfl (by decide) (by decide) dL_cell_18 (⟨_, rfl, rfl⟩)
set_option maxHeartbeats 4000000 in
set_option maxRecDepth 100000 in
/-- ClinkerWorksLaw.below -/
theorem c_L_below (l : Launch) (G : VG) (v : Int32) (N : Nat) (hN : 0 < N) (hN2 : N ≤ 1000) : Mi l G yL_below cL_below 2 .int 0 0 0 0 [.int v, .int (nI N)] [] (fun r u => ∃ k : Nat, k < N ∧ nI k = r ∧ u = []) := by
  refine Mi_of (by decide) (Nat.le_of_ble_eq_true rfl) (fun pP eE sS mM aA bB tT cC AA QQ hC hr hnm hQ => ?_)
  obtain ⟨j, hj, ej⟩ := and_nat v
  refine V_iload_n hC dL_below_0 0 rfl ?_
  refine V_ldc hC dL_below_1 q754 ?_
  refine V_iand hC dL_below_3 ?_
  refine V_eqi (y := nI j) (ej) ?_
  refine V_iload_n hC dL_below_4 1 rfl ?_
  refine V_irem hC dL_below_5 (fun q => absurd (nI_z q (by omega)) (by omega)) ?_
  refine V_eqi (y := nI (j % N)) (pk_rem hj hN (by omega)) ?_
  exact V_iret hC hQ hr [] (u := []) (by decide) rfl (by decide) (by decide) dL_below_6 (⟨_, Nat.mod_lt _ hN, rfl, rfl⟩)
set_option maxHeartbeats 4000000 in
set_option maxRecDepth 100000 in
/-- ClinkerWorksLaw$Told.draw -/
theorem c_X9_draw (l : Launch) (G : VG) (t m ba la wa d : Nat) (N : Nat) (hN : 0 < N) (hN2 : N ≤ 1000) (hd : d ≤ 1000) : Mi l G yX9_draw cX9_draw 3 .int 1 21 0 0 [.ref t, .int (nI N)] [[(t, .inr (10, [.ref m, .ref (G.2.2 1), .int (nI d), .ref ba, .ref la, .ref wa]))]] (fun r u => ∃ k : Nat, k < N ∧ nI k = r ∧ u = [[(t, .inr (10, [.ref m, .ref (G.2.2 1), .int (nI (d + 1)), .ref ba, .ref la, .ref wa]))]]) := by
  refine Mi_of (by decide) (Nat.le_of_ble_eq_true rfl) (fun pP eE sS mM aA bB tT cC AA QQ hC hr hnm hQ => ?_)
  refine V_aload_n hC dX9_draw_0 0 rfl ?_
  refine V_get hC dX9_draw_1 inAX9 (mem_at 0 0 rfl rfl) rfl 1 (by decide) q722 rfl (v := .ref (G.2.2 1)) rfl ?_
  refine V_aload_n hC dX9_draw_4 0 rfl ?_
  refine V_get hC dX9_draw_5 inAX9 (mem_at 0 0 rfl rfl) rfl 2 (by decide) q723 rfl (v := .int (nI d)) rfl ?_
  refine V_bipush hC dX9_draw_8 (v := 24) (by decide) ?_
  refine V_irem hC dX9_draw_10 (by decide) ?_
  refine V_eqi (y := nI (d % 24)) (pk_rem (d := 24) (by omega) (by omega) (by omega)) ?_
  refine V_calli hC (V_runSN hC (rest := []) (host := "ClinkerWorksLaw") [.ref (G.2.2 1), .int (nI (d % 24))] (c_L_cell l G (d % 24) (by omega)) [] rfl (by decide) (nest_mem (by decide +kernel)) q748 q18 q749 ⟨by decide, by decide, rfl⟩ ⟨by decide, by decide⟩ rfl (Nat.le_of_ble_eq_true rfl) ⟨by decide, by decide⟩ dX9_draw_11) (is := []) rfl [0] (rs := [[(t, .inr (10, [.ref m, .ref (G.2.2 1), .int (nI d), .ref ba, .ref la, .ref wa]))]]) rfl (by decide) (by decide) ?_
  rintro _ _ ⟨x1, rfl, rfl⟩
  refine V_aload_n hC dX9_draw_14 0 rfl ?_
  refine V_get hC dX9_draw_15 inAX9 (mem_at 0 0 rfl rfl) rfl 2 (by decide) q723 rfl (v := .int (nI d)) rfl ?_
  refine V_bipush hC dX9_draw_18 (v := 24) (by decide) ?_
  refine V_idiv hC dX9_draw_20 (by decide) ?_
  refine V_eqi (y := nI (d / 24)) (pk_div (d := 24) (by omega) (by omega) (by omega)) ?_
  refine V_bipush hC dX9_draw_21 (v := 8) (by decide) ?_
  refine V_irem hC dX9_draw_23 (by decide) ?_
  refine V_eqi (y := nI (d / 24 % 8)) (pk_rem (d := 8) (by omega) (by omega) (by omega)) ?_
  refine V_ishr hC dX9_draw_24 ?_
  refine V_sipush hC dX9_draw_25 (v := 277) (by decide) ?_
  refine V_aload_n hC dX9_draw_28 0 rfl ?_
  refine V_get hC dX9_draw_29 inAX9 (mem_at 0 0 rfl rfl) rfl 2 (by decide) q723 rfl (v := .int (nI d)) rfl ?_
  refine V_imul hC dX9_draw_32 ?_
  refine V_iadd hC dX9_draw_33 ?_
  refine V_iload_n hC dX9_draw_34 1 rfl ?_
  refine V_calli hC (V_runSN hC (rest := []) (host := "ClinkerWorksLaw") [.int ((x1 >>> ((nI (d / 24 % 8)) &&& 31)) + (277 * (nI d))), .int (nI N)] (c_L_below l G ((x1 >>> ((nI (d / 24 % 8)) &&& 31)) + (277 * (nI d))) N hN hN2) [] rfl (by decide) (nest_mem (by decide +kernel)) q752 q18 q753 ⟨by decide, by decide, rfl⟩ ⟨by decide, by decide⟩ rfl (Nat.le_of_ble_eq_true rfl) ⟨by decide, by decide⟩ dX9_draw_35) (is := []) rfl [0] (rs := [[(t, .inr (10, [.ref m, .ref (G.2.2 1), .int (nI d), .ref ba, .ref la, .ref wa]))]]) rfl (by decide) (by decide) ?_
  rintro _ _ ⟨k2, hk2, rfl, rfl⟩
  refine V_istore_n hC dX9_draw_38 (L' := [(2, .int (nI k2)), (0, .ref t), (1, .int (nI N))]) (by decide) rfl ?_
  refine V_aload_n hC dX9_draw_39 1 rfl ?_
  refine V_dup hC dX9_draw_40 rfl ?_
  refine V_get hC dX9_draw_41 inAX9 (mem_at 0 0 rfl rfl) rfl 2 (by decide) q723 rfl (v := .int (nI d)) rfl ?_
  refine V_iconst hC dX9_draw_44 (v := 1) (by decide) ?_
  refine V_iadd hC dX9_draw_45 ?_
  refine V_eqi (y := nI (d + 1)) (nI_1 d) ?_
  refine V_put hC dX9_draw_46 inAX9 tyX9 tyX9_ok nmX9 0 0 rfl rfl rfl 2 (by decide) q723 rfl rfl (rfl) (rfl) (Nat.le_of_ble_eq_true rfl) (ps' := [[(t, .inr (10, [.ref m, .ref (G.2.2 1), .int (nI (d + 1)), .ref ba, .ref la, .ref wa]))]]) rfl ?_
  refine V_iload_n hC dX9_draw_49 0 rfl ?_
  exact V_iret hC hQ hr [0] (u := [[(t, .inr (10, [.ref m, .ref (G.2.2 1), .int (nI (d + 1)), .ref ba, .ref la, .ref wa]))]]) (by decide) rfl (by decide) (by decide) dX9_draw_50 (⟨_, hk2, rfl, rfl⟩)
set_option maxHeartbeats 4000000 in
set_option maxRecDepth 100000 in
/-- ClinkerWorksLaw$Told.plus -/
theorem c_X9_plus (l : Launch) (G : VG) (a b n : Nat) (e : Nat → Nat) (Ww : va_W) (hn : n ≤ 20) (hel : ∀ i, i < n → iaIn G Ww (e i)) (hb : iaIn G Ww b) : Mr l G yX9_plus cX9_plus 3 (.array (.array .int)) 1 30 1 21 [.ref a, .ref b] [[(a, .inl (G.2.1 9, n, .inr (.inr (.inr (.inr (rfN n e))))))], Ww] (fun r u => ∃ q : Nat, q = r ∧ u = [[(q, .inl (G.2.1 9, n + 1, .inr (.inr (.inr (.inr (rfN (n + 1) (va_up e n b)))))))], Ww]) := by
  refine Mr_of (by decide) (Nat.le_of_ble_eq_true rfl) (fun pP eE sS mM aA bB tT cC AA QQ hC hr hnm hQ => ?_)
  refine V_aload_n hC dX9_plus_0 0 rfl ?_
  refine V_alen hC dX9_plus_1 9 rfl (mem_at 0 0 rfl rfl) (v := nI n) (rfl) ?_
  refine V_iconst hC dX9_plus_2 (v := 1) (by decide) ?_
  refine V_iadd hC dX9_plus_3 ?_
  refine V_eqi (y := nI (n + 1)) (nI_1 n) ?_
  refine V_newA hC q718 (N := n + 1) (nI_pos (by omega)) (nI_clamp (by omega)) (by omega) (by decide) (by show 0 + (n + 1) ≤ 21; omega) dX9_plus_4 (fun q1 => ?_)
  refine V_astore_n hC dX9_plus_7 (L' := [(2, .ref q1), (0, .ref a), (1, .ref b)]) (by decide) rfl ?_
  refine V_aload_n hC dX9_plus_8 1 rfl ?_
  refine V_iconst hC dX9_plus_9 (v := 0) (by decide) ?_
  refine V_aload_n hC dX9_plus_10 0 rfl ?_
  refine V_iconst hC dX9_plus_11 (v := 0) (by decide) ?_
  refine V_aload_n hC dX9_plus_12 1 rfl ?_
  refine V_alen hC dX9_plus_13 9 rfl (mem_at 0 0 rfl rfl) (v := nI n) (rfl) ?_
  refine V_copyA hC q758 q760 q759 q29 (mem_at 0 0 rfl rfl) 2 0 rfl rfl n (by omega) (by omega) (by omega) (fun i hi y hy => by rw [rfN_at hi] at hy; cases hy; exact iaIn_mem (j := 1) rfl (hel i hi)) (by decide) (by decide) (ps' := [[(a, .inl (G.2.1 9, n, .inr (.inr (.inr (.inr (rfN n e))))))], Ww, [(q1, .inl (G.2.1 9, n + 1, .inr (.inr (.inr (.inr (va_cpy (rfN n e) (fun _ => none) 0 0 n))))))]]) rfl dX9_plus_14 ?_
  refine V_aload_n hC dX9_plus_17 0 rfl ?_
  refine V_aload_n hC dX9_plus_18 1 rfl ?_
  refine V_alen hC dX9_plus_19 9 rfl (mem_at 0 0 rfl rfl) (v := nI n) (rfl) ?_
  refine V_aload_n hC dX9_plus_20 2 rfl ?_
  refine V_aastA hC dX9_plus_21 2 0 rfl rfl (iaIn_mem (j := 1) rfl hb) (vp_in_nI (by omega) (by omega)) (z := n) (nI_clamp (by omega)) (ps' := [[(a, .inl (G.2.1 9, n, .inr (.inr (.inr (.inr (rfN n e))))))], Ww, [(q1, .inl (G.2.1 9, n + 1, .inr (.inr (.inr (.inr (va_up (va_cpy (rfN n e) (fun _ => none) 0 0 n) n (some b)))))))]]) rfl ?_
  refine V_aload_n hC dX9_plus_22 0 rfl ?_
  exact V_aret hC hQ hr (Or.inr ⟨_, rfl⟩) [2, 1] (u := [[(q1, .inl (G.2.1 9, n + 1, .inr (.inr (.inr (.inr (va_up (va_cpy (rfN n e) (fun _ => none) 0 0 n) n (some b)))))))], Ww]) (by decide) rfl (by show 1 ≤ 1; omega) (by show 0 + (n + 1) ≤ 21; omega) dX9_plus_23 (⟨_, rfl, by rw [rfN_push]⟩)
set_option maxHeartbeats 4000000 in
set_option maxRecDepth 100000 in
/-- ClinkerWorksLaw$Told.pile -/
theorem c_X9_pile (l : Launch) (G : VG) (t m ba la wa d : Nat) (n : Nat) (lA : Nat → Nat) (lf : Nat → Nat → Int32) (g : Nat → Int32) (hn : n ≤ 8) (hg : ∀ j, j < n → lf j 1 = g j) : Mi l G yX9_pile cX9_pile 6 .int 0 0 0 0 [.ref t] [[(t, .inr (10, [.ref m, .ref (G.2.2 1), .int (nI d), .ref ba, .ref la, .ref wa]))], [(la, .inl (G.2.1 9, n, .inr (.inr (.inr (.inr (rfN n lA))))))], famW n (fun ι => iaP G (lA ι) 2 (lf ι))] (fun r u => r = sm g n ∧ u = [[(t, .inr (10, [.ref m, .ref (G.2.2 1), .int (nI d), .ref ba, .ref la, .ref wa]))], [(la, .inl (G.2.1 9, n, .inr (.inr (.inr (.inr (rfN n lA))))))], famW n (fun ι => iaP G (lA ι) 2 (lf ι))]) := by
  refine Mi_of (by decide) (Nat.le_of_ble_eq_true rfl) (fun pP eE sS mM aA bB tT cC AA QQ hC hr hnm hQ => ?_)
  refine V_iconst hC dX9_pile_0 (v := 0) (by decide) ?_
  refine V_istore_n hC dX9_pile_1 (L' := [(1, .int 0), (0, .ref t)]) (by decide) rfl ?_
  refine V_aload_n hC dX9_pile_2 1 rfl ?_
  refine V_get hC dX9_pile_3 inAX9 (mem_at 0 0 rfl rfl) rfl 4 (by decide) q726 rfl (v := .ref la) rfl ?_
  refine V_astore_n hC dX9_pile_6 (L' := [(2, .ref la), (1, .int 0), (0, .ref t)]) (by decide) rfl ?_
  refine V_aload_n hC dX9_pile_7 0 rfl ?_
  refine V_alen hC dX9_pile_8 9 rfl (mem_at 1 0 rfl rfl) (v := nI n) (rfl) ?_
  refine V_istore_n hC dX9_pile_9 (L' := [(3, .int (nI n)), (2, .ref la), (1, .int 0), (0, .ref t)]) (by decide) rfl ?_
  refine V_iconst hC dX9_pile_10 (v := 0) (by decide) ?_
  refine V_istore hC dX9_pile_11 (L' := [(4, .int 0), (3, .int (nI n)), (2, .ref la), (1, .int 0), (0, .ref t)]) (by decide) rfl ?_
  have loop1 : ∀ (fuel : Nat) (i : Nat) (hi : i ≤ n) (_ : n - i < fuel), V pP l eE { frames := 0, cells := 0, slots := 0, locals := 0 } sS mM aA bB tT cC QQ G AA 6 [[(t, .inr (10, [.ref m, .ref (G.2.2 1), .int (nI d), .ref ba, .ref la, .ref wa]))], [(la, .inl (G.2.1 9, n, .inr (.inr (.inr (.inr (rfN n lA))))))], famW n (fun ι => iaP G (lA ι) 2 (lf ι))] 0 0 13 [(0, .ref t), (1, .int (sm g i)), (2, .ref la), (3, .int (nI n)), (4, .int (nI i))] [] := by
    intro fuel
    induction fuel with
    | zero => intro i hi hm; exact absurd hm (Nat.not_lt_zero _)
    | succ fuel ih =>
      intro i hi hm
      refine V_iload hC dX9_pile_13 4 rfl ?_
      refine V_iload_n hC dX9_pile_15 3 rfl ?_
      refine V_icmp_ge hC dX9_pile_16 (tgt := 38) (by decide) (fun h2 => ?_) (fun h2 => ?_)
      · have he : i = n := by have := nle h2; omega
        rw [he]
        refine V_iload_n hC dX9_pile_38 1 rfl ?_
        exact V_iret hC hQ hr [0, 1, 2] (u := [[(t, .inr (10, [.ref m, .ref (G.2.2 1), .int (nI d), .ref ba, .ref la, .ref wa]))], [(la, .inl (G.2.1 9, n, .inr (.inr (.inr (.inr (rfN n lA))))))], famW n (fun ι => iaP G (lA ι) 2 (lf ι))]) (by decide) rfl (by decide) (by decide) dX9_pile_39 (⟨rfl, rfl⟩)
      · have hlt := nnle h2
        refine V_aload_n hC dX9_pile_19 2 rfl ?_
        refine V_iload hC dX9_pile_20 4 rfl ?_
        refine V_aaldI hC dX9_pile_22 (mem_at 1 0 rfl rfl) (vp_in_nI (by omega) (by omega)) (x := i) (nI_clamp (by omega)) (b := lA i) (rfN_at (hlt)) ?_
        refine V_astore hC dX9_pile_23 (L' := [(5, .ref (lA i)), (0, .ref t), (1, .int (sm g i)), (2, .ref la), (3, .int (nI n)), (4, .int (nI i))]) (by decide) rfl ?_
        refine V_iload_n hC dX9_pile_25 2 rfl ?_
        refine V_aload hC dX9_pile_26 0 rfl ?_
        refine V_iconst hC dX9_pile_28 (v := 1) (by decide) ?_
        refine V_iald hC dX9_pile_29 (mem_fam 2 0 rfl i (hlt) rfl) (vin (by decide)) (x := 1) (by decide) ?_
        refine V_eqi (y := g i) (hg i hlt) ?_
        refine V_iadd hC dX9_pile_30 ?_
        refine V_istore_n hC dX9_pile_31 (L' := [(1, .int ((sm g i) + (g i))), (5, .ref (lA i)), (0, .ref t), (2, .ref la), (3, .int (nI n)), (4, .int (nI i))]) (by decide) rfl ?_
        refine V_iinc hC dX9_pile_32 (v := nI (i + 1)) (L' := [(4, .int (nI (i + 1))), (1, .int ((sm g i) + (g i))), (5, .ref (lA i)), (0, .ref t), (2, .ref la), (3, .int (nI n))]) (j := 5) rfl (nI_1 _) (by decide) rfl ?_
        refine V_goto hC dX9_pile_35 (tgt := 13) (by decide) ?_
        refine V_loc (L' := [(0, .ref t), (1, .int ((sm g i) + (g i))), (2, .ref la), (3, .int (nI n)), (4, .int (nI (i + 1)))]) [3, 1, 4, 5, 0] rfl ?_
        exact ih (i + 1) (by omega) (by omega)
  refine V_loc (L' := [(0, .ref t), (1, .int 0), (2, .ref la), (3, .int (nI n)), (4, .int 0)]) [4, 3, 2, 1, 0] rfl ?_
  exact loop1 (n + 1) 0 (Nat.zero_le _) (by omega)
