/-! ===== the law's own class: cutting, oxides ===== -/
/-- the bins' oxides -/
def ox4 (a b d : Int32) : Nat → Int32 := upd (upd (upd (upd (fun _ => 0) 0 0) 1 (9 * a + 3 * b)) 2 (6 * b)) 3 (9 * d)
/-- and those of what is cut -/
def oxT (bl : Nat → Nat → Int32) (f F o0 : Nat → Int32) : Nat → Nat → Int32
  | 0 => o0
  | i + 1 => mxStone (oxT bl f F o0 i) (fun o => bl (f i).toNatClampNeg (o + 1)) (F i)
set_option maxHeartbeats 4000000 in
set_option maxRecDepth 100000 in
/-- ClinkerWorksLaw$Told.cut -/
theorem c_X9_cut (l : Launch) (G : VG) (t m ba la wa d : Nat) (n : Nat) (lA : Nat → Nat) (lf : Nat → Nat → Int32) (g : Nat → Int32) (p : Nat → Nat) (c : Nat) (hn : n ≤ 8) (hg : ∀ j, j < n → lf j 1 = g j) (hgp : ∀ j, j < n → g j = nI (p j)) (hp : ∀ j, j < n → p j ≤ 200) (hc1 : 1 ≤ c) (hc9 : c ≤ 9) (hcP : c ≤ nsm p n) : Mr l G yX9_cut cX9_cut 5 (.array .int) 1 25 1 8 [.ref t, .int (nI c)] [[(t, .inr (10, [.ref m, .ref (G.2.2 1), .int (nI d), .ref ba, .ref la, .ref wa]))], [(la, .inl (G.2.1 9, n, .inr (.inr (.inr (.inr (rfN n lA))))))], famW n (fun ι => iaP G (lA ι) 2 (lf ι))] (fun r u => ∃ (q : Nat) (F : Nat → Int32), q = r ∧ (∀ j, j < n → F j = nI (cutN p n c j)) ∧ u = [[(t, .inr (10, [.ref m, .ref (G.2.2 1), .int (nI d), .ref ba, .ref la, .ref wa]))], [(la, .inl (G.2.1 9, n, .inr (.inr (.inr (.inr (rfN n lA))))))], famW n (fun ι => iaP G (lA ι) 2 (lf ι)), [(q, .inl (G.2.1 0, n, .inl F))]]) := by
  refine Mr_of (by decide) (Nat.le_of_ble_eq_true rfl) (fun pP eE sS mM aA bB tT cC AA QQ hC hr hnm hQ => ?_)
  have h0 : 0 < nsm p n := by omega
  have hP : nsm p n ≤ 2000 := by have := nsm_b hp; omega
  have hsm := sm_nat hgp
  have hs0 : ¬ sm g n = 0 := by rw [hsm]; exact fun q => absurd (nI_z q (by omega)) (by omega)
  have hn0 : 0 < n := by rcases Nat.eq_zero_or_pos n with e | e; (rw [e] at h0; exact absurd h0 (Nat.lt_irrefl 0)); exact e
  have hsL : soL g (nI c) (sm g n) (nI c) n = nI (c - nsm (ct0 p n c) n) := by rw [hsm]; exact soL_nat hgp hp h0 hP hc9 hcP (Nat.le_refl n)
  refine V_aload_n hC dX9_cut_0 0 rfl ?_
  refine V_get hC dX9_cut_1 inAX9 (mem_at 0 0 rfl rfl) rfl 4 (by decide) q726 rfl (v := .ref la) rfl ?_
  refine V_alen hC dX9_cut_4 9 rfl (mem_at 1 0 rfl rfl) (v := nI n) (rfl) ?_
  refine V_newa_i hC q70 (N := n) (nI_pos (by omega)) (nI_clamp (by omega)) (by show n * 4 ≤ 536870912; omega) (by decide) (by show 0 + n ≤ 8; omega) dX9_cut_5 (fun q1 => ?_)
  refine V_astore_n hC dX9_cut_7 (L' := [(2, .ref q1), (0, .ref t), (1, .int (nI c))]) (by decide) rfl ?_
  refine V_iload_n hC dX9_cut_8 2 rfl ?_
  refine V_istore_n hC dX9_cut_9 (L' := [(3, .int (nI c)), (2, .ref q1), (0, .ref t), (1, .int (nI c))]) (by decide) rfl ?_
  refine V_iconst hC dX9_cut_10 (v := 0) (by decide) ?_
  refine V_istore hC dX9_cut_11 (L' := [(4, .int 0), (3, .int (nI c)), (2, .ref q1), (0, .ref t), (1, .int (nI c))]) (by decide) rfl ?_
  have loop2 : ∀ (fuel : Nat) (i : Nat) (hi : i ≤ n) (_ : n - i < fuel), V pP l eE { frames := 1, cells := 1, slots := 8, locals := 25 } sS mM aA bB tT cC QQ G AA 5 [[(t, .inr (10, [.ref m, .ref (G.2.2 1), .int (nI d), .ref ba, .ref la, .ref wa]))], [(la, .inl (G.2.1 9, n, .inr (.inr (.inr (.inr (rfN n lA))))))], famW n (fun ι => iaP G (lA ι) 2 (lf ι)), [(q1, .inl (G.2.1 0, n, .inl (soS g (fun _ => 0) (nI c) (sm g n) i)))]] 1 (0 + n) 13 [(0, .ref t), (1, .int (nI c)), (2, .ref q1), (3, .int (soL g (nI c) (sm g n) (nI c) i)), (4, .int (nI i))] [] := by
    intro fuel
    induction fuel with
    | zero => intro i hi hm; exact absurd hm (Nat.not_lt_zero _)
    | succ fuel ih =>
      intro i hi hm
      refine V_iload hC dX9_cut_13 4 rfl ?_
      refine V_aload_n hC dX9_cut_15 2 rfl ?_
      refine V_alen hC dX9_cut_16 0 rfl (mem_at 3 0 rfl rfl) (v := nI n) (rfl) ?_
      refine V_icmp_ge hC dX9_cut_17 (tgt := 53) (by decide) (fun h3 => ?_) (fun h3 => ?_)
      · have he : i = n := by have := nle h3; omega
        rw [he, hsL]
        have loop4 : ∀ (fuel : Nat) (r : Nat) (F : Nat → Int32) (hF : ∀ j, j < n → F j = nI ((rds p n r (ct0 p n c, c - nsm (ct0 p n c) n)).1 j)) (hrc : r ≤ c) (_ : c - r < fuel), V pP l eE { frames := 1, cells := 1, slots := 8, locals := 25 } sS mM aA bB tT cC QQ G AA 5 [[(t, .inr (10, [.ref m, .ref (G.2.2 1), .int (nI d), .ref ba, .ref la, .ref wa]))], [(la, .inl (G.2.1 9, n, .inr (.inr (.inr (.inr (rfN n lA))))))], famW n (fun ι => iaP G (lA ι) 2 (lf ι)), [(q1, .inl (G.2.1 0, n, .inl F))]] 1 (0 + n) 53 [(0, .ref t), (1, .int (nI c)), (2, .ref q1), (3, .int (nI (rds p n r (ct0 p n c, c - nsm (ct0 p n c) n)).2))] [] := by
          intro fuel
          induction fuel with
          | zero => intro r F hF hrc hm; exact absurd hm (Nat.not_lt_zero _)
          | succ fuel ih =>
            intro r F hF hrc hm
            have ih1 := ih
            refine V_iload_n hC dX9_cut_53 3 rfl ?_
            refine V_if_le hC dX9_cut_54 (tgt := 110) (by decide) (fun h5 => ?_) (fun h5 => ?_)
            · have hz : (rds p n r (ct0 p n c, c - nsm (ct0 p n c) n)).2 = 0 := by have hl9 := rds_l (ct0_I h0 hcP).2 hcP r; have h55 : (ct0 p n c, c - nsm (ct0 p n c) n).2 ≤ 9 := (by show c - _ ≤ 9; omega); have := nle (b := 0) h5 (by omega); omega
              refine V_aload_n hC dX9_cut_110 2 rfl ?_
              exact V_aret hC hQ hr (Or.inr ⟨_, rfl⟩) [0, 1, 2, 3] (u := [[(t, .inr (10, [.ref m, .ref (G.2.2 1), .int (nI d), .ref ba, .ref la, .ref wa]))], [(la, .inl (G.2.1 9, n, .inr (.inr (.inr (.inr (rfN n lA))))))], famW n (fun ι => iaP G (lA ι) 2 (lf ι)), [(q1, .inl (G.2.1 0, n, .inl F))]]) (by decide) rfl (by show 1 ≤ 1; omega) (by show 0 + n ≤ 8; omega) dX9_cut_111 (⟨_, F, rfl, fun j hj => by rw [hF j hj]; exact congrArg (fun x => nI (x j)) (rd_end (k := 0) h0 hcP (Nat.zero_le _) hz), rfl⟩)
            · have hl9 : (rds p n r (ct0 p n c, c - nsm (ct0 p n c) n)).2 ≤ 9 := by have h4 := rds_l (ct0_I h0 hcP).2 hcP r; have h55 : (ct0 p n c, c - nsm (ct0 p n c) n).2 ≤ 9 := (by show c - _ ≤ 9; omega); omega
              have hnz : ¬ (rds p n r (ct0 p n c, c - nsm (ct0 p n c) n)).2 = 0 := fun q => h5 (by rw [q]; decide)
              have hrc2 := rds_pos (k := 0) h0 hcP hnz
              refine V_iconst hC dX9_cut_57 (v := 0) (by decide) ?_
              refine V_istore hC dX9_cut_58 (L' := [(4, .int 0), (0, .ref t), (1, .int (nI c)), (2, .ref q1), (3, .int (nI (rds p n r (ct0 p n c, c - nsm (ct0 p n c) n)).2))]) (by decide) rfl ?_
              have loop6 : ∀ (fuel : Nat) (k : Nat) (F : Nat → Int32) (hF : ∀ j, j < n → F j = nI ((rd p k (rds p n r (ct0 p n c, c - nsm (ct0 p n c) n))).1 j)) (hk : k ≤ n) (_ : n - k < fuel), V pP l eE { frames := 1, cells := 1, slots := 8, locals := 25 } sS mM aA bB tT cC QQ G AA 5 [[(t, .inr (10, [.ref m, .ref (G.2.2 1), .int (nI d), .ref ba, .ref la, .ref wa]))], [(la, .inl (G.2.1 9, n, .inr (.inr (.inr (.inr (rfN n lA))))))], famW n (fun ι => iaP G (lA ι) 2 (lf ι)), [(q1, .inl (G.2.1 0, n, .inl F))]] 1 (0 + n) 60 [(0, .ref t), (1, .int (nI c)), (2, .ref q1), (3, .int (nI (rd p k (rds p n r (ct0 p n c, c - nsm (ct0 p n c) n))).2)), (4, .int (nI k))] [] := by
                intro fuel
                induction fuel with
                | zero => intro k F hF hk hm; exact absurd hm (Nat.not_lt_zero _)
                | succ fuel ih =>
                  intro k F hF hk hm
                  have ih2 := ih
                  refine V_iload hC dX9_cut_60 4 rfl ?_
                  refine V_aload_n hC dX9_cut_62 2 rfl ?_
                  refine V_alen hC dX9_cut_63 0 rfl (mem_at 3 0 rfl rfl) (v := nI n) (rfl) ?_
                  refine V_icmp_ge hC dX9_cut_64 (tgt := 107) (by decide) (fun h7 => ?_) (fun h7 => ?_)
                  · have he : k = n := by have := nle h7; omega
                    rw [he] at hF
                    rw [he]
                    refine V_goto hC dX9_cut_107 (tgt := 53) (by decide) ?_
                    refine V_loc (L' := [(0, .ref t), (1, .int (nI c)), (2, .ref q1), (3, .int (nI (rd p n (rds p n r (ct0 p n c, c - nsm (ct0 p n c) n))).2))]) [0, 1, 2, 3] rfl ?_
                    have hh := ih1 (r + 1) F (fun j hj => hF j hj) (by omega) (by omega)
                    exact hh
                  · have hlt := nnle h7
                    have hle := rd_le (p := p) (s := (rds p n r (ct0 p n c, c - nsm (ct0 p n c) n))) k
                    have hI9 := rd_I (rds_I (ct0_I h0 hcP).2 r) (Nat.le_of_lt hlt)
                    have hI8 := hI9.1 k hlt
                    have hp9 := hp k hlt
                    refine V_iload_n hC dX9_cut_67 3 rfl ?_
                    refine V_if_eq hC dX9_cut_68 (tgt := 101) (by decide) (fun h8 => ?_) (fun h8 => ?_)
                    · have hz : (rd p k (rds p n r (ct0 p n c, c - nsm (ct0 p n c) n))).2 = 0 := nI_z h8 (by omega)
                      refine V_iinc hC dX9_cut_101 (v := nI (k + 1)) (L' := [(4, .int (nI (k + 1))), (0, .ref t), (1, .int (nI c)), (2, .ref q1), (3, .int (nI (rd p k (rds p n r (ct0 p n c, c - nsm (ct0 p n c) n))).2))]) (j := 4) rfl (nI_1 _) (by decide) rfl ?_
                      refine V_goto hC dX9_cut_104 (tgt := 60) (by decide) ?_
                      refine V_loc (L' := [(0, .ref t), (1, .int (nI c)), (2, .ref q1), (3, .int (nI (rd p k (rds p n r (ct0 p n c, c - nsm (ct0 p n c) n))).2)), (4, .int (nI (k + 1)))]) [1, 2, 3, 4, 0] rfl ?_
                      have es : rd p (k + 1) (rds p n r (ct0 p n c, c - nsm (ct0 p n c) n)) = (rd p k (rds p n r (ct0 p n c, c - nsm (ct0 p n c) n))) := if_pos hz
                      have hh := ih2 (k + 1) F (fun j hj => by rw [es]; exact hF j hj) (by omega) (by omega)
                      rw [es] at hh
                      exact hh
                    · have hz : ¬ (rd p k (rds p n r (ct0 p n c, c - nsm (ct0 p n c) n))).2 = 0 := fun q => h8 (by rw [q]; rfl)
                      refine V_aload_n hC dX9_cut_71 2 rfl ?_
                      refine V_iload hC dX9_cut_72 4 rfl ?_
                      refine V_iald hC dX9_cut_74 (mem_at 3 0 rfl rfl) (vp_in_nI (by omega) (by omega)) (x := k) (nI_clamp (by omega)) ?_
                      refine V_eqi (y := nI ((rd p k (rds p n r (ct0 p n c, c - nsm (ct0 p n c) n))).1 k)) (hF k hlt) ?_
                      refine V_aload_n hC dX9_cut_75 0 rfl ?_
                      refine V_get hC dX9_cut_76 inAX9 (mem_at 0 0 rfl rfl) rfl 4 (by decide) q726 rfl (v := .ref la) rfl ?_
                      refine V_iload hC dX9_cut_79 4 rfl ?_
                      refine V_aaldI hC dX9_cut_81 (mem_at 1 0 rfl rfl) (vp_in_nI (by omega) (by omega)) (x := k) (nI_clamp (by omega)) (b := lA k) (rfN_at (hlt)) ?_
                      refine V_iconst hC dX9_cut_82 (v := 1) (by decide) ?_
                      refine V_iald hC dX9_cut_83 (mem_fam 2 0 rfl k (hlt) rfl) (vin (by decide)) (x := 1) (by decide) ?_
                      refine V_eqi (y := nI (p k)) ((hg k hlt).trans (hgp k hlt)) ?_
                      refine V_icmp_ne hC dX9_cut_84 (tgt := 90) (by decide) (fun h9 => ?_) (fun h9 => ?_)
                      · have hne : ¬ (rd p k (rds p n r (ct0 p n c, c - nsm (ct0 p n c) n))).1 k = p k := fun e => h9 (by rw [e])
                        refine V_aload_n hC dX9_cut_90 2 rfl ?_
                        refine V_iload hC dX9_cut_91 4 rfl ?_
                        refine V_dup2 hC dX9_cut_93 rfl rfl ?_
                        refine V_iald hC dX9_cut_94 (mem_at 3 0 rfl rfl) (vp_in_nI (by omega) (by omega)) (x := k) (nI_clamp (by omega)) ?_
                        refine V_eqi (y := nI ((rd p k (rds p n r (ct0 p n c, c - nsm (ct0 p n c) n))).1 k)) (hF k hlt) ?_
                        refine V_iconst hC dX9_cut_95 (v := 1) (by decide) ?_
                        refine V_iadd hC dX9_cut_96 ?_
                        refine V_eqi (y := nI ((rd p k (rds p n r (ct0 p n c, c - nsm (ct0 p n c) n))).1 k + 1)) (nI_1 _) ?_
                        refine V_iast hC dX9_cut_97 3 0 rfl rfl (vp_in_nI (by omega) (by omega)) (z := k) (nI_clamp (by omega)) (ps' := [[(t, .inr (10, [.ref m, .ref (G.2.2 1), .int (nI d), .ref ba, .ref la, .ref wa]))], [(la, .inl (G.2.1 9, n, .inr (.inr (.inr (.inr (rfN n lA))))))], famW n (fun ι => iaP G (lA ι) 2 (lf ι)), [(q1, .inl (G.2.1 0, n, .inl (upd F k (nI ((rd p k (rds p n r (ct0 p n c, c - nsm (ct0 p n c) n))).1 k + 1)))))]]) rfl ?_
                        refine V_iinc hC dX9_cut_98 (v := nI ((rd p k (rds p n r (ct0 p n c, c - nsm (ct0 p n c) n))).2 - 1)) (L' := [(3, .int (nI ((rd p k (rds p n r (ct0 p n c, c - nsm (ct0 p n c) n))).2 - 1))), (0, .ref t), (1, .int (nI c)), (2, .ref q1), (4, .int (nI k))]) (j := 3) rfl (by rw [show Int32.ofInt (-1) = (-1 : Int32) by decide, ← Int32.sub_eq_add_neg]; exact nI_subE (b := 1) (by omega) rfl) (by decide) rfl ?_
                        refine V_iinc hC dX9_cut_101 (v := nI (k + 1)) (L' := [(4, .int (nI (k + 1))), (3, .int (nI ((rd p k (rds p n r (ct0 p n c, c - nsm (ct0 p n c) n))).2 - 1))), (0, .ref t), (1, .int (nI c)), (2, .ref q1)]) (j := 4) rfl (nI_1 _) (by decide) rfl ?_
                        refine V_goto hC dX9_cut_104 (tgt := 60) (by decide) ?_
                        refine V_loc (L' := [(0, .ref t), (1, .int (nI c)), (2, .ref q1), (3, .int (nI ((rd p k (rds p n r (ct0 p n c, c - nsm (ct0 p n c) n))).2 - 1))), (4, .int (nI (k + 1)))]) [2, 3, 4, 1, 0] rfl ?_
                        have es : rd p (k + 1) (rds p n r (ct0 p n c, c - nsm (ct0 p n c) n)) = (va_up (rd p k (rds p n r (ct0 p n c, c - nsm (ct0 p n c) n))).1 k ((rd p k (rds p n r (ct0 p n c, c - nsm (ct0 p n c) n))).1 k + 1), (rd p k (rds p n r (ct0 p n c, c - nsm (ct0 p n c) n))).2 - 1) := (if_neg hz).trans (if_pos (by omega))
                        have hh := ih2 (k + 1) (upd F k (nI ((rd p k (rds p n r (ct0 p n c, c - nsm (ct0 p n c) n))).1 k + 1))) (fun j hj => by rw [es]; show upd F k _ j = nI (va_up _ k _ j); by_cases e : j = k; (rw [e, pk_us, va_up_eq]); (rw [pk_un e, va_up_ne _ _ e]; exact hF j hj)) (by omega) (by omega)
                        rw [es] at hh
                        exact hh
                      · have heq : (rd p k (rds p n r (ct0 p n c, c - nsm (ct0 p n c) n))).1 k = p k := nI_inj h9
                        refine V_goto hC dX9_cut_87 (tgt := 101) (by decide) ?_
                        refine V_iinc hC dX9_cut_101 (v := nI (k + 1)) (L' := [(4, .int (nI (k + 1))), (0, .ref t), (1, .int (nI c)), (2, .ref q1), (3, .int (nI (rd p k (rds p n r (ct0 p n c, c - nsm (ct0 p n c) n))).2))]) (j := 4) rfl (nI_1 _) (by decide) rfl ?_
                        refine V_goto hC dX9_cut_104 (tgt := 60) (by decide) ?_
                        refine V_loc (L' := [(0, .ref t), (1, .int (nI c)), (2, .ref q1), (3, .int (nI (rd p k (rds p n r (ct0 p n c, c - nsm (ct0 p n c) n))).2)), (4, .int (nI (k + 1)))]) [1, 2, 3, 4, 0] rfl ?_
                        have es : rd p (k + 1) (rds p n r (ct0 p n c, c - nsm (ct0 p n c) n)) = (rd p k (rds p n r (ct0 p n c, c - nsm (ct0 p n c) n))) := (if_neg hz).trans (if_neg (by omega))
                        have hh := ih2 (k + 1) F (fun j hj => by rw [es]; exact hF j hj) (by omega) (by omega)
                        rw [es] at hh
                        exact hh
              refine V_loc (L' := [(0, .ref t), (1, .int (nI c)), (2, .ref q1), (3, .int (nI (rds p n r (ct0 p n c, c - nsm (ct0 p n c) n)).2)), (4, .int 0)]) [1, 2, 3, 4, 0] rfl ?_
              exact loop6 (n + 1) 0 F hF (Nat.zero_le _) (by omega)
        refine V_loc (L' := [(0, .ref t), (1, .int (nI c)), (2, .ref q1), (3, .int (nI (c - nsm (ct0 p n c) n)))]) [0, 1, 2, 3] rfl ?_
        exact loop4 (c + 1) 0 _ (fun j hj => by rw [hsm]; exact soS_nat hgp hp h0 hP hc9 (Nat.le_refl n) j hj) (Nat.zero_le _) (by omega)
      · have hlt := nnle h3
        refine V_aload_n hC dX9_cut_20 2 rfl ?_
        refine V_iload hC dX9_cut_21 4 rfl ?_
        refine V_aload_n hC dX9_cut_23 0 rfl ?_
        refine V_get hC dX9_cut_24 inAX9 (mem_at 0 0 rfl rfl) rfl 4 (by decide) q726 rfl (v := .ref la) rfl ?_
        refine V_iload hC dX9_cut_27 4 rfl ?_
        refine V_aaldI hC dX9_cut_29 (mem_at 1 0 rfl rfl) (vp_in_nI (by omega) (by omega)) (x := i) (nI_clamp (by omega)) (b := lA i) (rfN_at (hlt)) ?_
        refine V_iconst hC dX9_cut_30 (v := 1) (by decide) ?_
        refine V_iald hC dX9_cut_31 (mem_fam 2 0 rfl i (hlt) rfl) (vin (by decide)) (x := 1) (by decide) ?_
        refine V_eqi (y := g i) (hg i hlt) ?_
        refine V_iload_n hC dX9_cut_32 1 rfl ?_
        refine V_imul hC dX9_cut_33 ?_
        refine V_aload_n hC dX9_cut_34 0 rfl ?_
        refine V_calli hC (V_runV hC (rest := [.int ((g i) * (nI c)), .int (nI i), .ref q1]) [] (c_X9_pile l G t m ba la wa d n lA lf g hn hg) [0, 1, 2] rfl (by decide) q773 q762 q763 q19 q764 ⟨by decide, by decide, rfl⟩ ⟨by decide, by decide⟩ (ci := 10) rfl (mem_at 0 0 rfl rfl) rfl (Nat.le_of_ble_eq_true rfl) ⟨(by show 1 + 0 ≤ 1; omega), (by show 0 + n + 0 ≤ 8; omega)⟩ dX9_cut_35) (is := [0, 1, 2]) rfl [3] (rs := [[(q1, .inl (G.2.1 0, n, .inl (soS g (fun _ => 0) (nI c) (sm g n) i)))]]) rfl (by decide) (by decide) ?_
        rintro _ _ ⟨rfl, rfl⟩
        refine V_idiv hC dX9_cut_38 (hs0) ?_
        refine V_iast hC dX9_cut_39 3 0 rfl rfl (vp_in_nI (by omega) (by omega)) (z := i) (nI_clamp (by omega)) (ps' := [[(t, .inr (10, [.ref m, .ref (G.2.2 1), .int (nI d), .ref ba, .ref la, .ref wa]))], [(la, .inl (G.2.1 9, n, .inr (.inr (.inr (.inr (rfN n lA))))))], famW n (fun ι => iaP G (lA ι) 2 (lf ι)), [(q1, .inl (G.2.1 0, n, .inl (upd (soS g (fun _ => 0) (nI c) (sm g n) i) i (((g i) * (nI c)) / (sm g n)))))]]) rfl ?_
        refine V_iload_n hC dX9_cut_40 3 rfl ?_
        refine V_aload_n hC dX9_cut_41 2 rfl ?_
        refine V_iload hC dX9_cut_42 4 rfl ?_
        refine V_iald hC dX9_cut_44 (mem_at 3 0 rfl rfl) (vp_in_nI (by omega) (by omega)) (x := i) (nI_clamp (by omega)) ?_
        refine V_eqi (y := g i * nI c / sm g n) (pk_us) ?_
        refine V_isub hC dX9_cut_45 ?_
        refine V_istore_n hC dX9_cut_46 (L' := [(3, .int ((soL g (nI c) (sm g n) (nI c) i) - (g i * nI c / sm g n))), (0, .ref t), (1, .int (nI c)), (2, .ref q1), (4, .int (nI i))]) (by decide) rfl ?_
        refine V_iinc hC dX9_cut_47 (v := nI (i + 1)) (L' := [(4, .int (nI (i + 1))), (3, .int ((soL g (nI c) (sm g n) (nI c) i) - (g i * nI c / sm g n))), (0, .ref t), (1, .int (nI c)), (2, .ref q1)]) (j := 4) rfl (nI_1 _) (by decide) rfl ?_
        refine V_goto hC dX9_cut_50 (tgt := 13) (by decide) ?_
        refine V_loc (L' := [(0, .ref t), (1, .int (nI c)), (2, .ref q1), (3, .int ((soL g (nI c) (sm g n) (nI c) i) - (g i * nI c / sm g n))), (4, .int (nI (i + 1)))]) [2, 3, 4, 1, 0] rfl ?_
        exact ih (i + 1) (by omega) (by omega)
  refine V_loc (L' := [(0, .ref t), (1, .int (nI c)), (2, .ref q1), (3, .int (nI c)), (4, .int 0)]) [3, 4, 2, 1, 0] rfl ?_
  exact loop2 (n + 1) 0 (Nat.zero_le _) (by omega)
set_option maxHeartbeats 4000000 in
set_option maxRecDepth 100000 in
/-- ClinkerWorksLaw$Told.oxides -/
theorem c_X9_oxides (l : Launch) (G : VG) (t m ba la wa d : Nat) (nb : Nat) (bA : Nat → Nat) (bl : Nat → Nat → Int32) (n : Nat) (lA : Nat → Nat) (lf : Nat → Nat → Int32) (k8 : Nat) (f F : Nat → Int32) (a1 b1 d1 : Int32) (hn : n ≤ 8) (hnb : nb ≤ 6) (hf : ∀ j, j < n → lf j 0 = f j ∧ ∃ v : Nat, v < nb ∧ f j = nI v) : Mr l G yX9_oxides cX9_oxides 8 (.array .int) 0 0 1 4 [.ref t, .ref k8, .int a1, .int b1, .int d1] [[(t, .inr (10, [.ref m, .ref (G.2.2 1), .int (nI d), .ref ba, .ref la, .ref wa]))], [(ba, .inl (G.2.1 9, nb, .inr (.inr (.inr (.inr (rfN nb bA))))))], famW nb (fun ι => iaP G (bA ι) 5 (bl ι)), [(la, .inl (G.2.1 9, n, .inr (.inr (.inr (.inr (rfN n lA))))))], famW n (fun ι => iaP G (lA ι) 2 (lf ι)), [(k8, .inl (G.2.1 0, n, .inl F))]] (fun r u => ∃ q : Nat, q = r ∧ u = [[(t, .inr (10, [.ref m, .ref (G.2.2 1), .int (nI d), .ref ba, .ref la, .ref wa]))], [(ba, .inl (G.2.1 9, nb, .inr (.inr (.inr (.inr (rfN nb bA))))))], famW nb (fun ι => iaP G (bA ι) 5 (bl ι)), [(la, .inl (G.2.1 9, n, .inr (.inr (.inr (.inr (rfN n lA))))))], famW n (fun ι => iaP G (lA ι) 2 (lf ι)), [(k8, .inl (G.2.1 0, n, .inl F))], [(q, .inl (G.2.1 0, 4, .inl (oxT bl f F (ox4 a1 b1 d1) n)))]]) := by
  refine Mr_of (by decide) (Nat.le_of_ble_eq_true rfl) (fun pP eE sS mM aA bB tT cC AA QQ hC hr hnm hQ => ?_)
  refine V_iconst hC dX9_oxides_0 (v := 4) (by decide) ?_
  refine V_newa_i hC q70 (N := 4) (by decide) (by decide) (by decide) (by decide) (by decide) dX9_oxides_1 (fun q1 => ?_)
  refine V_dup hC dX9_oxides_3 rfl ?_
  refine V_iconst hC dX9_oxides_4 (v := 0) (by decide) ?_
  refine V_iconst hC dX9_oxides_5 (v := 0) (by decide) ?_
  refine V_iast hC dX9_oxides_6 6 0 rfl rfl (vin (by decide)) (z := 0) (by decide) (ps' := [[(t, .inr (10, [.ref m, .ref (G.2.2 1), .int (nI d), .ref ba, .ref la, .ref wa]))], [(ba, .inl (G.2.1 9, nb, .inr (.inr (.inr (.inr (rfN nb bA))))))], famW nb (fun ι => iaP G (bA ι) 5 (bl ι)), [(la, .inl (G.2.1 9, n, .inr (.inr (.inr (.inr (rfN n lA))))))], famW n (fun ι => iaP G (lA ι) 2 (lf ι)), [(k8, .inl (G.2.1 0, n, .inl F))], [(q1, .inl (G.2.1 0, 4, .inl (upd (fun _ => 0) 0 0)))]]) rfl ?_
  refine V_dup hC dX9_oxides_7 rfl ?_
  refine V_iconst hC dX9_oxides_8 (v := 1) (by decide) ?_
  refine V_bipush hC dX9_oxides_9 (v := 9) (by decide) ?_
  refine V_iload_n hC dX9_oxides_11 2 rfl ?_
  refine V_imul hC dX9_oxides_12 ?_
  refine V_iconst hC dX9_oxides_13 (v := 3) (by decide) ?_
  refine V_iload_n hC dX9_oxides_14 3 rfl ?_
  refine V_imul hC dX9_oxides_15 ?_
  refine V_iadd hC dX9_oxides_16 ?_
  refine V_iast hC dX9_oxides_17 6 0 rfl rfl (vin (by decide)) (z := 1) (by decide) (ps' := [[(t, .inr (10, [.ref m, .ref (G.2.2 1), .int (nI d), .ref ba, .ref la, .ref wa]))], [(ba, .inl (G.2.1 9, nb, .inr (.inr (.inr (.inr (rfN nb bA))))))], famW nb (fun ι => iaP G (bA ι) 5 (bl ι)), [(la, .inl (G.2.1 9, n, .inr (.inr (.inr (.inr (rfN n lA))))))], famW n (fun ι => iaP G (lA ι) 2 (lf ι)), [(k8, .inl (G.2.1 0, n, .inl F))], [(q1, .inl (G.2.1 0, 4, .inl (upd (upd (fun _ => 0) 0 0) 1 ((9 * a1) + (3 * b1)))))]]) rfl ?_
  refine V_dup hC dX9_oxides_18 rfl ?_
  refine V_iconst hC dX9_oxides_19 (v := 2) (by decide) ?_
  refine V_bipush hC dX9_oxides_20 (v := 6) (by decide) ?_
  refine V_iload_n hC dX9_oxides_22 3 rfl ?_
  refine V_imul hC dX9_oxides_23 ?_
  refine V_iast hC dX9_oxides_24 6 0 rfl rfl (vin (by decide)) (z := 2) (by decide) (ps' := [[(t, .inr (10, [.ref m, .ref (G.2.2 1), .int (nI d), .ref ba, .ref la, .ref wa]))], [(ba, .inl (G.2.1 9, nb, .inr (.inr (.inr (.inr (rfN nb bA))))))], famW nb (fun ι => iaP G (bA ι) 5 (bl ι)), [(la, .inl (G.2.1 9, n, .inr (.inr (.inr (.inr (rfN n lA))))))], famW n (fun ι => iaP G (lA ι) 2 (lf ι)), [(k8, .inl (G.2.1 0, n, .inl F))], [(q1, .inl (G.2.1 0, 4, .inl (upd (upd (upd (fun _ => 0) 0 0) 1 ((9 * a1) + (3 * b1))) 2 (6 * b1))))]]) rfl ?_
  refine V_dup hC dX9_oxides_25 rfl ?_
  refine V_iconst hC dX9_oxides_26 (v := 3) (by decide) ?_
  refine V_bipush hC dX9_oxides_27 (v := 9) (by decide) ?_
  refine V_iload hC dX9_oxides_29 4 rfl ?_
  refine V_imul hC dX9_oxides_31 ?_
  refine V_iast hC dX9_oxides_32 6 0 rfl rfl (vin (by decide)) (z := 3) (by decide) (ps' := [[(t, .inr (10, [.ref m, .ref (G.2.2 1), .int (nI d), .ref ba, .ref la, .ref wa]))], [(ba, .inl (G.2.1 9, nb, .inr (.inr (.inr (.inr (rfN nb bA))))))], famW nb (fun ι => iaP G (bA ι) 5 (bl ι)), [(la, .inl (G.2.1 9, n, .inr (.inr (.inr (.inr (rfN n lA))))))], famW n (fun ι => iaP G (lA ι) 2 (lf ι)), [(k8, .inl (G.2.1 0, n, .inl F))], [(q1, .inl (G.2.1 0, 4, .inl (upd (upd (upd (upd (fun _ => 0) 0 0) 1 ((9 * a1) + (3 * b1))) 2 (6 * b1)) 3 (9 * d1))))]]) rfl ?_
  refine V_astore hC dX9_oxides_33 (L' := [(5, .ref q1), (0, .ref t), (1, .ref k8), (2, .int a1), (3, .int b1), (4, .int d1)]) (by decide) rfl ?_
  refine V_iconst hC dX9_oxides_35 (v := 0) (by decide) ?_
  refine V_istore hC dX9_oxides_36 (L' := [(6, .int 0), (5, .ref q1), (0, .ref t), (1, .ref k8), (2, .int a1), (3, .int b1), (4, .int d1)]) (by decide) rfl ?_
  have loop2 : ∀ (fuel : Nat) (i : Nat) (hi : i ≤ n) (_ : n - i < fuel), V pP l eE { frames := 0, cells := 1, slots := 4, locals := 0 } sS mM aA bB tT cC QQ G AA 8 [[(t, .inr (10, [.ref m, .ref (G.2.2 1), .int (nI d), .ref ba, .ref la, .ref wa]))], [(ba, .inl (G.2.1 9, nb, .inr (.inr (.inr (.inr (rfN nb bA))))))], famW nb (fun ι => iaP G (bA ι) 5 (bl ι)), [(la, .inl (G.2.1 9, n, .inr (.inr (.inr (.inr (rfN n lA))))))], famW n (fun ι => iaP G (lA ι) 2 (lf ι)), [(k8, .inl (G.2.1 0, n, .inl F))], [(q1, .inl (G.2.1 0, 4, .inl (oxT bl f F (ox4 a1 b1 d1) i)))]] 1 4 38 [(0, .ref t), (1, .ref k8), (2, .int a1), (3, .int b1), (4, .int d1), (5, .ref q1), (6, .int (nI i))] [] := by
    intro fuel
    induction fuel with
    | zero => intro i hi hm; exact absurd hm (Nat.not_lt_zero _)
    | succ fuel ih =>
      intro i hi hm
      refine V_iload hC dX9_oxides_38 6 rfl ?_
      refine V_aload_n hC dX9_oxides_40 1 rfl ?_
      refine V_alen hC dX9_oxides_41 0 rfl (mem_at 5 0 rfl rfl) (v := nI n) (rfl) ?_
      refine V_icmp_ge hC dX9_oxides_42 (tgt := 98) (by decide) (fun h3 => ?_) (fun h3 => ?_)
      · have he : i = n := by have := nle h3; omega
        rw [he]
        refine V_aload hC dX9_oxides_98 5 rfl ?_
        exact V_aret hC hQ hr (Or.inr ⟨_, rfl⟩) [0, 1, 2, 3, 4, 5, 6] (u := [[(t, .inr (10, [.ref m, .ref (G.2.2 1), .int (nI d), .ref ba, .ref la, .ref wa]))], [(ba, .inl (G.2.1 9, nb, .inr (.inr (.inr (.inr (rfN nb bA))))))], famW nb (fun ι => iaP G (bA ι) 5 (bl ι)), [(la, .inl (G.2.1 9, n, .inr (.inr (.inr (.inr (rfN n lA))))))], famW n (fun ι => iaP G (lA ι) 2 (lf ι)), [(k8, .inl (G.2.1 0, n, .inl F))], [(q1, .inl (G.2.1 0, 4, .inl (oxT bl f F (ox4 a1 b1 d1) n)))]]) (by decide) rfl (by decide) (by decide) dX9_oxides_100 (⟨_, rfl, rfl⟩)
      · have hlt := nnle h3
        obtain ⟨hf9, v, hv, hfv⟩ := hf i hlt
        refine V_iconst hC dX9_oxides_45 (v := 0) (by decide) ?_
        refine V_istore hC dX9_oxides_46 (L' := [(7, .int 0), (0, .ref t), (1, .ref k8), (2, .int a1), (3, .int b1), (4, .int d1), (5, .ref q1), (6, .int (nI i))]) (by decide) rfl ?_
        refine V_iload hC dX9_oxides_48 0 rfl ?_
        refine V_iconst hC dX9_oxides_50 (v := 4) (by decide) ?_
        refine V_icmp_geF hC dX9_oxides_51 (tgt := 92) (by decide) (by decide) ?_
        refine V_aload hC dX9_oxides_54 6 rfl ?_
        refine V_iload hC dX9_oxides_56 0 rfl ?_
        refine V_dup2 hC dX9_oxides_58 rfl rfl ?_
        refine V_iald hC dX9_oxides_59 (mem_at 6 0 rfl rfl) (vin (by decide)) (x := 0) (by decide) ?_
        refine V_aload_n hC dX9_oxides_60 2 rfl ?_
        refine V_iload hC dX9_oxides_61 7 rfl ?_
        refine V_iald hC dX9_oxides_63 (mem_at 5 0 rfl rfl) (vp_in_nI (by omega) (by omega)) (x := i) (nI_clamp (by omega)) ?_
        refine V_aload_n hC dX9_oxides_64 1 rfl ?_
        refine V_get hC dX9_oxides_65 inAX9 (mem_at 0 0 rfl rfl) rfl 3 (by decide) q724 rfl (v := .ref ba) rfl ?_
        refine V_aload_n hC dX9_oxides_68 1 rfl ?_
        refine V_get hC dX9_oxides_69 inAX9 (mem_at 0 0 rfl rfl) rfl 4 (by decide) q726 rfl (v := .ref la) rfl ?_
        refine V_iload hC dX9_oxides_72 7 rfl ?_
        refine V_aaldI hC dX9_oxides_74 (mem_at 3 0 rfl rfl) (vp_in_nI (by omega) (by omega)) (x := i) (nI_clamp (by omega)) (b := lA i) (rfN_at (hlt)) ?_
        refine V_iconst hC dX9_oxides_75 (v := 0) (by decide) ?_
        refine V_iald hC dX9_oxides_76 (mem_fam 4 0 rfl i (hlt) rfl) (vin (by decide)) (x := 0) (by decide) ?_
        refine V_eqi (y := nI v) (hf9.trans hfv) ?_
        refine V_aaldI hC dX9_oxides_77 (mem_at 1 0 rfl rfl) (vp_in_nI (by omega) (by omega)) (x := v) (nI_clamp (by omega)) (b := bA v) (rfN_at (hv)) ?_
        refine V_iconst hC dX9_oxides_78 (v := 1) (by decide) ?_
        refine V_iload hC dX9_oxides_79 0 rfl ?_
        refine V_iadd hC dX9_oxides_81 ?_
        refine V_eqi (y := 1) (by decide) ?_
        refine V_iald hC dX9_oxides_82 (mem_fam 2 0 rfl v (hv) rfl) (vin (by decide)) (x := 1) (by decide) ?_
        refine V_imul hC dX9_oxides_83 ?_
        refine V_iadd hC dX9_oxides_84 ?_
        refine V_iast hC dX9_oxides_85 6 0 rfl rfl (vin (by decide)) (z := 0) (by decide) (ps' := [[(t, .inr (10, [.ref m, .ref (G.2.2 1), .int (nI d), .ref ba, .ref la, .ref wa]))], [(ba, .inl (G.2.1 9, nb, .inr (.inr (.inr (.inr (rfN nb bA))))))], famW nb (fun ι => iaP G (bA ι) 5 (bl ι)), [(la, .inl (G.2.1 9, n, .inr (.inr (.inr (.inr (rfN n lA))))))], famW n (fun ι => iaP G (lA ι) 2 (lf ι)), [(k8, .inl (G.2.1 0, n, .inl F))], [(q1, .inl (G.2.1 0, 4, .inl (upd (oxT bl f F (ox4 a1 b1 d1) i) 0 (((oxT bl f F (ox4 a1 b1 d1) i) 0) + ((F i) * ((bl v) 1))))))]]) rfl ?_
        refine V_iinc hC dX9_oxides_86 (v := 1) (L' := [(7, .int 1), (0, .ref t), (1, .ref k8), (2, .int a1), (3, .int b1), (4, .int d1), (5, .ref q1), (6, .int (nI i))]) (j := 0) rfl (by decide) (by decide) rfl ?_
        refine V_goto hC dX9_oxides_89 (tgt := 48) (by decide) ?_
        refine V_iload hC dX9_oxides_48 0 rfl ?_
        refine V_iconst hC dX9_oxides_50 (v := 4) (by decide) ?_
        refine V_icmp_geF hC dX9_oxides_51 (tgt := 92) (by decide) (by decide) ?_
        refine V_aload hC dX9_oxides_54 6 rfl ?_
        refine V_iload hC dX9_oxides_56 0 rfl ?_
        refine V_dup2 hC dX9_oxides_58 rfl rfl ?_
        refine V_iald hC dX9_oxides_59 (mem_at 6 0 rfl rfl) (vin (by decide)) (x := 1) (by decide) ?_
        refine V_aload_n hC dX9_oxides_60 2 rfl ?_
        refine V_iload hC dX9_oxides_61 7 rfl ?_
        refine V_iald hC dX9_oxides_63 (mem_at 5 0 rfl rfl) (vp_in_nI (by omega) (by omega)) (x := i) (nI_clamp (by omega)) ?_
        refine V_aload_n hC dX9_oxides_64 1 rfl ?_
        refine V_get hC dX9_oxides_65 inAX9 (mem_at 0 0 rfl rfl) rfl 3 (by decide) q724 rfl (v := .ref ba) rfl ?_
        refine V_aload_n hC dX9_oxides_68 1 rfl ?_
        refine V_get hC dX9_oxides_69 inAX9 (mem_at 0 0 rfl rfl) rfl 4 (by decide) q726 rfl (v := .ref la) rfl ?_
        refine V_iload hC dX9_oxides_72 7 rfl ?_
        refine V_aaldI hC dX9_oxides_74 (mem_at 3 0 rfl rfl) (vp_in_nI (by omega) (by omega)) (x := i) (nI_clamp (by omega)) (b := lA i) (rfN_at (hlt)) ?_
        refine V_iconst hC dX9_oxides_75 (v := 0) (by decide) ?_
        refine V_iald hC dX9_oxides_76 (mem_fam 4 0 rfl i (hlt) rfl) (vin (by decide)) (x := 0) (by decide) ?_
        refine V_eqi (y := nI v) (hf9.trans hfv) ?_
        refine V_aaldI hC dX9_oxides_77 (mem_at 1 0 rfl rfl) (vp_in_nI (by omega) (by omega)) (x := v) (nI_clamp (by omega)) (b := bA v) (rfN_at (hv)) ?_
        refine V_iconst hC dX9_oxides_78 (v := 1) (by decide) ?_
        refine V_iload hC dX9_oxides_79 0 rfl ?_
        refine V_iadd hC dX9_oxides_81 ?_
        refine V_eqi (y := 2) (by decide) ?_
        refine V_iald hC dX9_oxides_82 (mem_fam 2 0 rfl v (hv) rfl) (vin (by decide)) (x := 2) (by decide) ?_
        refine V_imul hC dX9_oxides_83 ?_
        refine V_iadd hC dX9_oxides_84 ?_
        refine V_iast hC dX9_oxides_85 6 0 rfl rfl (vin (by decide)) (z := 1) (by decide) (ps' := [[(t, .inr (10, [.ref m, .ref (G.2.2 1), .int (nI d), .ref ba, .ref la, .ref wa]))], [(ba, .inl (G.2.1 9, nb, .inr (.inr (.inr (.inr (rfN nb bA))))))], famW nb (fun ι => iaP G (bA ι) 5 (bl ι)), [(la, .inl (G.2.1 9, n, .inr (.inr (.inr (.inr (rfN n lA))))))], famW n (fun ι => iaP G (lA ι) 2 (lf ι)), [(k8, .inl (G.2.1 0, n, .inl F))], [(q1, .inl (G.2.1 0, 4, .inl (upd (upd (oxT bl f F (ox4 a1 b1 d1) i) 0 (((oxT bl f F (ox4 a1 b1 d1) i) 0) + ((F i) * ((bl v) 1)))) 1 (((oxT bl f F (ox4 a1 b1 d1) i) 1) + ((F i) * ((bl v) 2))))))]]) rfl ?_
        refine V_iinc hC dX9_oxides_86 (v := 2) (L' := [(7, .int 2), (0, .ref t), (1, .ref k8), (2, .int a1), (3, .int b1), (4, .int d1), (5, .ref q1), (6, .int (nI i))]) (j := 0) rfl (by decide) (by decide) rfl ?_
        refine V_goto hC dX9_oxides_89 (tgt := 48) (by decide) ?_
        refine V_iload hC dX9_oxides_48 0 rfl ?_
        refine V_iconst hC dX9_oxides_50 (v := 4) (by decide) ?_
        refine V_icmp_geF hC dX9_oxides_51 (tgt := 92) (by decide) (by decide) ?_
        refine V_aload hC dX9_oxides_54 6 rfl ?_
        refine V_iload hC dX9_oxides_56 0 rfl ?_
        refine V_dup2 hC dX9_oxides_58 rfl rfl ?_
        refine V_iald hC dX9_oxides_59 (mem_at 6 0 rfl rfl) (vin (by decide)) (x := 2) (by decide) ?_
        refine V_aload_n hC dX9_oxides_60 2 rfl ?_
        refine V_iload hC dX9_oxides_61 7 rfl ?_
        refine V_iald hC dX9_oxides_63 (mem_at 5 0 rfl rfl) (vp_in_nI (by omega) (by omega)) (x := i) (nI_clamp (by omega)) ?_
        refine V_aload_n hC dX9_oxides_64 1 rfl ?_
        refine V_get hC dX9_oxides_65 inAX9 (mem_at 0 0 rfl rfl) rfl 3 (by decide) q724 rfl (v := .ref ba) rfl ?_
        refine V_aload_n hC dX9_oxides_68 1 rfl ?_
        refine V_get hC dX9_oxides_69 inAX9 (mem_at 0 0 rfl rfl) rfl 4 (by decide) q726 rfl (v := .ref la) rfl ?_
        refine V_iload hC dX9_oxides_72 7 rfl ?_
        refine V_aaldI hC dX9_oxides_74 (mem_at 3 0 rfl rfl) (vp_in_nI (by omega) (by omega)) (x := i) (nI_clamp (by omega)) (b := lA i) (rfN_at (hlt)) ?_
        refine V_iconst hC dX9_oxides_75 (v := 0) (by decide) ?_
        refine V_iald hC dX9_oxides_76 (mem_fam 4 0 rfl i (hlt) rfl) (vin (by decide)) (x := 0) (by decide) ?_
        refine V_eqi (y := nI v) (hf9.trans hfv) ?_
        refine V_aaldI hC dX9_oxides_77 (mem_at 1 0 rfl rfl) (vp_in_nI (by omega) (by omega)) (x := v) (nI_clamp (by omega)) (b := bA v) (rfN_at (hv)) ?_
        refine V_iconst hC dX9_oxides_78 (v := 1) (by decide) ?_
        refine V_iload hC dX9_oxides_79 0 rfl ?_
        refine V_iadd hC dX9_oxides_81 ?_
        refine V_eqi (y := 3) (by decide) ?_
        refine V_iald hC dX9_oxides_82 (mem_fam 2 0 rfl v (hv) rfl) (vin (by decide)) (x := 3) (by decide) ?_
        refine V_imul hC dX9_oxides_83 ?_
        refine V_iadd hC dX9_oxides_84 ?_
        refine V_iast hC dX9_oxides_85 6 0 rfl rfl (vin (by decide)) (z := 2) (by decide) (ps' := [[(t, .inr (10, [.ref m, .ref (G.2.2 1), .int (nI d), .ref ba, .ref la, .ref wa]))], [(ba, .inl (G.2.1 9, nb, .inr (.inr (.inr (.inr (rfN nb bA))))))], famW nb (fun ι => iaP G (bA ι) 5 (bl ι)), [(la, .inl (G.2.1 9, n, .inr (.inr (.inr (.inr (rfN n lA))))))], famW n (fun ι => iaP G (lA ι) 2 (lf ι)), [(k8, .inl (G.2.1 0, n, .inl F))], [(q1, .inl (G.2.1 0, 4, .inl (upd (upd (upd (oxT bl f F (ox4 a1 b1 d1) i) 0 (((oxT bl f F (ox4 a1 b1 d1) i) 0) + ((F i) * ((bl v) 1)))) 1 (((oxT bl f F (ox4 a1 b1 d1) i) 1) + ((F i) * ((bl v) 2)))) 2 (((oxT bl f F (ox4 a1 b1 d1) i) 2) + ((F i) * ((bl v) 3))))))]]) rfl ?_
        refine V_iinc hC dX9_oxides_86 (v := 3) (L' := [(7, .int 3), (0, .ref t), (1, .ref k8), (2, .int a1), (3, .int b1), (4, .int d1), (5, .ref q1), (6, .int (nI i))]) (j := 0) rfl (by decide) (by decide) rfl ?_
        refine V_goto hC dX9_oxides_89 (tgt := 48) (by decide) ?_
        refine V_iload hC dX9_oxides_48 0 rfl ?_
        refine V_iconst hC dX9_oxides_50 (v := 4) (by decide) ?_
        refine V_icmp_geF hC dX9_oxides_51 (tgt := 92) (by decide) (by decide) ?_
        refine V_aload hC dX9_oxides_54 6 rfl ?_
        refine V_iload hC dX9_oxides_56 0 rfl ?_
        refine V_dup2 hC dX9_oxides_58 rfl rfl ?_
        refine V_iald hC dX9_oxides_59 (mem_at 6 0 rfl rfl) (vin (by decide)) (x := 3) (by decide) ?_
        refine V_aload_n hC dX9_oxides_60 2 rfl ?_
        refine V_iload hC dX9_oxides_61 7 rfl ?_
        refine V_iald hC dX9_oxides_63 (mem_at 5 0 rfl rfl) (vp_in_nI (by omega) (by omega)) (x := i) (nI_clamp (by omega)) ?_
        refine V_aload_n hC dX9_oxides_64 1 rfl ?_
        refine V_get hC dX9_oxides_65 inAX9 (mem_at 0 0 rfl rfl) rfl 3 (by decide) q724 rfl (v := .ref ba) rfl ?_
        refine V_aload_n hC dX9_oxides_68 1 rfl ?_
        refine V_get hC dX9_oxides_69 inAX9 (mem_at 0 0 rfl rfl) rfl 4 (by decide) q726 rfl (v := .ref la) rfl ?_
        refine V_iload hC dX9_oxides_72 7 rfl ?_
        refine V_aaldI hC dX9_oxides_74 (mem_at 3 0 rfl rfl) (vp_in_nI (by omega) (by omega)) (x := i) (nI_clamp (by omega)) (b := lA i) (rfN_at (hlt)) ?_
        refine V_iconst hC dX9_oxides_75 (v := 0) (by decide) ?_
        refine V_iald hC dX9_oxides_76 (mem_fam 4 0 rfl i (hlt) rfl) (vin (by decide)) (x := 0) (by decide) ?_
        refine V_eqi (y := nI v) (hf9.trans hfv) ?_
        refine V_aaldI hC dX9_oxides_77 (mem_at 1 0 rfl rfl) (vp_in_nI (by omega) (by omega)) (x := v) (nI_clamp (by omega)) (b := bA v) (rfN_at (hv)) ?_
        refine V_iconst hC dX9_oxides_78 (v := 1) (by decide) ?_
        refine V_iload hC dX9_oxides_79 0 rfl ?_
        refine V_iadd hC dX9_oxides_81 ?_
        refine V_eqi (y := 4) (by decide) ?_
        refine V_iald hC dX9_oxides_82 (mem_fam 2 0 rfl v (hv) rfl) (vin (by decide)) (x := 4) (by decide) ?_
        refine V_imul hC dX9_oxides_83 ?_
        refine V_iadd hC dX9_oxides_84 ?_
        refine V_iast hC dX9_oxides_85 6 0 rfl rfl (vin (by decide)) (z := 3) (by decide) (ps' := [[(t, .inr (10, [.ref m, .ref (G.2.2 1), .int (nI d), .ref ba, .ref la, .ref wa]))], [(ba, .inl (G.2.1 9, nb, .inr (.inr (.inr (.inr (rfN nb bA))))))], famW nb (fun ι => iaP G (bA ι) 5 (bl ι)), [(la, .inl (G.2.1 9, n, .inr (.inr (.inr (.inr (rfN n lA))))))], famW n (fun ι => iaP G (lA ι) 2 (lf ι)), [(k8, .inl (G.2.1 0, n, .inl F))], [(q1, .inl (G.2.1 0, 4, .inl (upd (upd (upd (upd (oxT bl f F (ox4 a1 b1 d1) i) 0 (((oxT bl f F (ox4 a1 b1 d1) i) 0) + ((F i) * ((bl v) 1)))) 1 (((oxT bl f F (ox4 a1 b1 d1) i) 1) + ((F i) * ((bl v) 2)))) 2 (((oxT bl f F (ox4 a1 b1 d1) i) 2) + ((F i) * ((bl v) 3)))) 3 (((oxT bl f F (ox4 a1 b1 d1) i) 3) + ((F i) * ((bl v) 4))))))]]) rfl ?_
        refine V_iinc hC dX9_oxides_86 (v := 4) (L' := [(7, .int 4), (0, .ref t), (1, .ref k8), (2, .int a1), (3, .int b1), (4, .int d1), (5, .ref q1), (6, .int (nI i))]) (j := 0) rfl (by decide) (by decide) rfl ?_
        refine V_goto hC dX9_oxides_89 (tgt := 48) (by decide) ?_
        refine V_iload hC dX9_oxides_48 0 rfl ?_
        refine V_iconst hC dX9_oxides_50 (v := 4) (by decide) ?_
        refine V_icmp_geT hC dX9_oxides_51 (tgt := 92) (by decide) (by decide) ?_
        refine V_iinc hC dX9_oxides_92 (v := nI (i + 1)) (L' := [(6, .int (nI (i + 1))), (7, .int 4), (0, .ref t), (1, .ref k8), (2, .int a1), (3, .int b1), (4, .int d1), (5, .ref q1)]) (j := 7) rfl (nI_1 _) (by decide) rfl ?_
        refine V_goto hC dX9_oxides_95 (tgt := 38) (by decide) ?_
        refine V_loc (L' := [(0, .ref t), (1, .ref k8), (2, .int a1), (3, .int b1), (4, .int d1), (5, .ref q1), (6, .int (nI (i + 1)))]) [2, 3, 4, 5, 6, 7, 0] rfl ?_
        have e : (oxT bl f F (ox4 a1 b1 d1) (i + 1)) = mxStone (oxT bl f F (ox4 a1 b1 d1) i) (fun o => bl v (o + 1)) (F i) := by show mxStone _ (fun o => bl (f i).toNatClampNeg (o + 1)) _ = _; rw [hfv, nI_clamp (by omega)]
        have hh := ih (i + 1) (by omega) (by omega)
        rw [e] at hh
        exact hh
  refine V_loc (L' := [(0, .ref t), (1, .ref k8), (2, .int a1), (3, .int b1), (4, .int d1), (5, .ref q1), (6, .int 0)]) [2, 3, 4, 5, 6, 1, 0] rfl ?_
  exact loop2 (n + 1) 0 (Nat.zero_le _) (by omega)
