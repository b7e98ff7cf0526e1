set_option maxHeartbeats 4000000 in
set_option maxRecDepth 100000 in
/-- ClinkerWorks$Pile.shareOut -/
theorem c_X5_shareOut (l : Launch) (G : VG) (a bo pa so n c : Nat) (f g h : Nat → Int32) (x : Int32) (hn : n ≤ 8) (hc : c ≤ 9) (hx : x = nI c) : Mv l G yX5_shareOut cX5_shareOut 5 1 23 0 0 [.ref a, .int x] [[(a, .inr (6, [.int (nI n), .ref bo, .ref pa, .ref so]))], [(bo, .inl (G.2.1 0, 8, .inl f))], [(pa, .inl (G.2.1 0, 8, .inl g))], [(so, .inl (G.2.1 0, 8, .inl h))]] (fun u => u = [[(a, .inr (6, [.int (nI n), .ref bo, .ref pa, .ref so]))], [(bo, .inl (G.2.1 0, 8, .inl f))], [(pa, .inl (G.2.1 0, 8, .inl g))], [(so, .inl (G.2.1 0, 8, .inl (soAll g h n c)))]]) := by
  refine Mv_of (by decide) (Nat.le_of_ble_eq_true rfl) (fun pP eE sS mM aA bB tT cC AA QQ hC hr hnm hQ => ?_)
  subst hx
  refine V_aload_n hC dX5_shareOut_0 0 rfl ?_
  refine V_calli hC (V_runV hC (rest := []) [] (c_X5_total l G a bo pa so n f g h hn) [0, 1, 2, 3] rfl (by decide) q422 q391 q392 q21 q393 ⟨by decide, by decide, rfl⟩ ⟨by decide, by decide⟩ (ci := 6) rfl (mem_at 0 0 rfl rfl) rfl (Nat.le_of_ble_eq_true rfl) ⟨by decide, by decide⟩ dX5_shareOut_1) (is := [0, 1, 2, 3]) rfl [] (rs := []) rfl (by decide) (by decide) ?_
  rintro _ _ ⟨rfl, rfl⟩
  refine V_istore_n hC dX5_shareOut_4 (L' := [(2, .int (sm g n)), (0, .ref a), (1, .int (nI c))]) (by decide) rfl ?_
  refine V_iload_n hC dX5_shareOut_5 0 rfl ?_
  refine V_if_ne hC dX5_shareOut_6 (tgt := 10) (by decide) (fun h1 => ?_) (fun h1 => ?_)
  · have hz : ¬ sm g n = 0 := h1
    refine V_iload_n hC dX5_shareOut_10 2 rfl ?_
    refine V_iload_n hC dX5_shareOut_11 0 rfl ?_
    refine V_mmin hC q423 q424 q35 q425 (by decide) (Nat.le_of_ble_eq_true rfl) (by decide) (by decide) dX5_shareOut_12 ?_
    refine V_istore_n hC dX5_shareOut_15 (L' := [(3, .int (mn (nI c) (sm g n))), (2, .int (sm g n)), (0, .ref a), (1, .int (nI c))]) (by decide) rfl ?_
    refine V_iconst hC dX5_shareOut_16 (v := 0) (by decide) ?_
    refine V_istore hC dX5_shareOut_17 (L' := [(4, .int 0), (3, .int (mn (nI c) (sm g n))), (2, .int (sm g n)), (0, .ref a), (1, .int (nI c))]) (by decide) rfl ?_
    have loop2 : ∀ (fuel : Nat) (i : Nat) (hi : i ≤ n) (_ : n - i < fuel), V pP l eE { frames := 1, cells := 0, slots := 0, locals := 23 } sS mM aA bB tT cC QQ G AA 5 [[(a, .inr (6, [.int (nI n), .ref bo, .ref pa, .ref so]))], [(bo, .inl (G.2.1 0, 8, .inl f))], [(pa, .inl (G.2.1 0, 8, .inl g))], [(so, .inl (G.2.1 0, 8, .inl (soS g h (nI c) (sm g n) i)))]] 0 0 19 [(0, .ref a), (1, .int (nI c)), (2, .int (sm g n)), (3, .int (soL g (nI c) (sm g n) (mn (nI c) (sm g n)) i)), (4, .int (nI i))] [] := by
      intro fuel
      induction fuel with
      | zero => intro i hi hm; exact absurd hm (Nat.not_lt_zero _)
      | succ fuel ih =>
        intro i hi hm
        refine V_iload hC dX5_shareOut_19 4 rfl ?_
        refine V_aload_n hC dX5_shareOut_21 0 rfl ?_
        refine V_get hC dX5_shareOut_22 inAX5 (mem_at 0 0 rfl rfl) rfl 0 (by decide) q53 rfl (v := .int (nI n)) rfl ?_
        refine V_icmp_ge hC dX5_shareOut_25 (tgt := 62) (by decide) (fun h3 => ?_) (fun h3 => ?_)
        · have he : i = n := by have := nle h3; omega
          rw [he]
          refine V_iconst hC dX5_shareOut_62 (v := 0) (by decide) ?_
          refine V_istore hC dX5_shareOut_63 (L' := [(4, .int 0), (0, .ref a), (1, .int (nI c)), (2, .int (sm g n)), (3, .int (soL g (nI c) (sm g n) (mn (nI c) (sm g n)) n))]) (by decide) rfl ?_
          have loop4 : ∀ (fuel : Nat) (r : Nat) (hr2 : r ≤ c) (_ : c - r < fuel), V pP l eE { frames := 1, cells := 0, slots := 0, locals := 23 } sS mM aA bB tT cC QQ G AA 5 [[(a, .inr (6, [.int (nI n), .ref bo, .ref pa, .ref so]))], [(bo, .inl (G.2.1 0, 8, .inl f))], [(pa, .inl (G.2.1 0, 8, .inl g))], [(so, .inl (G.2.1 0, 8, .inl ((soR g n r (soS g h (nI c) (sm g n) n, soL g (nI c) (sm g n) (mn (nI c) (sm g n)) n)).1)))]] 0 0 65 [(0, .ref a), (1, .int (nI c)), (2, .int (sm g n)), (3, .int ((soR g n r (soS g h (nI c) (sm g n) n, soL g (nI c) (sm g n) (mn (nI c) (sm g n)) n)).2)), (4, .int (nI r))] [] := by
            intro fuel
            induction fuel with
            | zero => intro r hr2 hm; exact absurd hm (Nat.not_lt_zero _)
            | succ fuel ih =>
              intro r hr2 hm
              refine V_iload hC dX5_shareOut_65 4 rfl ?_
              refine V_iload_n hC dX5_shareOut_67 1 rfl ?_
              refine V_icmp_ge hC dX5_shareOut_68 (tgt := 89) (by decide) (fun h5 => ?_) (fun h5 => ?_)
              · have he2 : r = c := by have := nle h5; omega
                rw [he2]
                exact V_vret hC hQ hr [0, 1, 2, 3] (u := [[(a, .inr (6, [.int (nI n), .ref bo, .ref pa, .ref so]))], [(bo, .inl (G.2.1 0, 8, .inl f))], [(pa, .inl (G.2.1 0, 8, .inl g))], [(so, .inl (G.2.1 0, 8, .inl ((soR g n c (soS g h (nI c) (sm g n) n, soL g (nI c) (sm g n) (mn (nI c) (sm g n)) n)).1)))]]) (by decide) rfl (by decide) (by decide) dX5_shareOut_89 (by simp [soAll, hz])
              · have hlt2 := nnle h5
                refine V_iload_n hC dX5_shareOut_71 3 rfl ?_
                refine V_if_le hC dX5_shareOut_72 (tgt := 89) (by decide) (fun h6 => ?_) (fun h6 => ?_)
                · have hs := soR_stop (i32_nlt h6) hr2
                  rw [← hs]
                  exact V_vret hC hQ hr [0, 1, 2, 3] (u := [[(a, .inr (6, [.int (nI n), .ref bo, .ref pa, .ref so]))], [(bo, .inl (G.2.1 0, 8, .inl f))], [(pa, .inl (G.2.1 0, 8, .inl g))], [(so, .inl (G.2.1 0, 8, .inl ((soR g n c (soS g h (nI c) (sm g n) n, soL g (nI c) (sm g n) (mn (nI c) (sm g n)) n)).1)))]]) (by decide) rfl (by decide) (by decide) dX5_shareOut_89 (by simp [soAll, hz])
                · refine V_iload_n hC dX5_shareOut_75 3 rfl ?_
                  refine V_aload_n hC dX5_shareOut_76 0 rfl ?_
                  refine V_iload_n hC dX5_shareOut_77 3 rfl ?_
                  refine V_calli hC (V_runV hC (rest := [.int ((soR g n r (soS g h (nI c) (sm g n) n, soL g (nI c) (sm g n) (mn (nI c) (sm g n)) n)).2)]) [.int ((soR g n r (soS g h (nI c) (sm g n) n, soL g (nI c) (sm g n) (mn (nI c) (sm g n)) n)).2)] (c_X5_shareRound l G a bo pa so n f g ((soR g n r (soS g h (nI c) (sm g n) n, soL g (nI c) (sm g n) (mn (nI c) (sm g n)) n)).1) ((soR g n r (soS g h (nI c) (sm g n) n, soL g (nI c) (sm g n) (mn (nI c) (sm g n)) n)).2) hn) [0, 1, 2, 3] rfl (by decide) q426 q428 q2 q21 q429 ⟨by decide, by decide, rfl⟩ ⟨by decide, by decide⟩ (ci := 6) rfl (mem_at 0 0 rfl rfl) rfl (Nat.le_of_ble_eq_true rfl) ⟨by decide, by decide⟩ dX5_shareOut_78) (is := [0, 1, 2, 3]) rfl [] (rs := []) rfl (by decide) (by decide) ?_
                  rintro _ _ ⟨rfl, rfl⟩
                  refine V_isub hC dX5_shareOut_81 ?_
                  refine V_istore_n hC dX5_shareOut_82 (L' := [(3, .int (((soR g n r (soS g h (nI c) (sm g n) n, soL g (nI c) (sm g n) (mn (nI c) (sm g n)) n)).2) - ((srF g ((soR g n r (soS g h (nI c) (sm g n) n, soL g (nI c) (sm g n) (mn (nI c) (sm g n)) n)).1) ((soR g n r (soS g h (nI c) (sm g n) n, soL g (nI c) (sm g n) (mn (nI c) (sm g n)) n)).2) n).2))), (0, .ref a), (1, .int (nI c)), (2, .int (sm g n)), (4, .int (nI r))]) (by decide) rfl ?_
                  refine V_iinc hC dX5_shareOut_83 (v := nI (r + 1)) (L' := [(4, .int (nI (r + 1))), (3, .int (((soR g n r (soS g h (nI c) (sm g n) n, soL g (nI c) (sm g n) (mn (nI c) (sm g n)) n)).2) - ((srF g ((soR g n r (soS g h (nI c) (sm g n) n, soL g (nI c) (sm g n) (mn (nI c) (sm g n)) n)).1) ((soR g n r (soS g h (nI c) (sm g n) n, soL g (nI c) (sm g n) (mn (nI c) (sm g n)) n)).2) n).2))), (0, .ref a), (1, .int (nI c)), (2, .int (sm g n))]) (j := 4) rfl (nI_1 _) (by decide) rfl ?_
                  refine V_goto hC dX5_shareOut_86 (tgt := 65) (by decide) ?_
                  refine V_loc (L' := [(0, .ref a), (1, .int (nI c)), (2, .int (sm g n)), (3, .int (((soR g n r (soS g h (nI c) (sm g n) n, soL g (nI c) (sm g n) (mn (nI c) (sm g n)) n)).2) - ((srF g ((soR g n r (soS g h (nI c) (sm g n) n, soL g (nI c) (sm g n) (mn (nI c) (sm g n)) n)).1) ((soR g n r (soS g h (nI c) (sm g n) n, soL g (nI c) (sm g n) (mn (nI c) (sm g n)) n)).2) n).2))), (4, .int (nI (r + 1)))]) [2, 3, 4, 1, 0] rfl ?_
                  have e : soR g n (r + 1) (soS g h (nI c) (sm g n) n, soL g (nI c) (sm g n) (mn (nI c) (sm g n)) n) = ((srF g (soR g n r (soS g h (nI c) (sm g n) n, soL g (nI c) (sm g n) (mn (nI c) (sm g n)) n)).1 (soR g n r (soS g h (nI c) (sm g n) n, soL g (nI c) (sm g n) (mn (nI c) (sm g n)) n)).2 n).1, (soR g n r (soS g h (nI c) (sm g n) n, soL g (nI c) (sm g n) (mn (nI c) (sm g n)) n)).2 - (srF g (soR g n r (soS g h (nI c) (sm g n) n, soL g (nI c) (sm g n) (mn (nI c) (sm g n)) n)).1 (soR g n r (soS g h (nI c) (sm g n) n, soL g (nI c) (sm g n) (mn (nI c) (sm g n)) n)).2 n).2) := if_pos (i32_lt h6)
                  have hh := ih (r + 1) (by omega) (by omega)
                  rw [e] at hh
                  exact hh
          refine V_loc (L' := [(0, .ref a), (1, .int (nI c)), (2, .int (sm g n)), (3, .int (soL g (nI c) (sm g n) (mn (nI c) (sm g n)) n)), (4, .int 0)]) [1, 2, 3, 4, 0] rfl ?_
          exact loop4 (c + 1) 0 (Nat.zero_le _) (by omega)
        · have hlt := nnle h3
          refine V_aload_n hC dX5_shareOut_28 0 rfl ?_
          refine V_get hC dX5_shareOut_29 inAX5 (mem_at 0 0 rfl rfl) rfl 3 (by decide) q59 rfl (v := .ref so) rfl ?_
          refine V_iload hC dX5_shareOut_32 4 rfl ?_
          refine V_aload_n hC dX5_shareOut_34 0 rfl ?_
          refine V_get hC dX5_shareOut_35 inAX5 (mem_at 0 0 rfl rfl) rfl 2 (by decide) q57 rfl (v := .ref pa) rfl ?_
          refine V_iload hC dX5_shareOut_38 4 rfl ?_
          refine V_iald hC dX5_shareOut_40 (mem_at 2 0 rfl rfl) (vp_in_nI (by omega) (by omega)) (x := i) (nI_clamp (by omega)) ?_
          refine V_iload_n hC dX5_shareOut_41 1 rfl ?_
          refine V_imul hC dX5_shareOut_42 ?_
          refine V_iload_n hC dX5_shareOut_43 2 rfl ?_
          refine V_idiv hC dX5_shareOut_44 (hz) ?_
          refine V_iast hC dX5_shareOut_45 3 0 rfl rfl (vp_in_nI (by omega) (by omega)) (z := i) (nI_clamp (by omega)) (ps' := [[(a, .inr (6, [.int (nI n), .ref bo, .ref pa, .ref so]))], [(bo, .inl (G.2.1 0, 8, .inl f))], [(pa, .inl (G.2.1 0, 8, .inl g))], [(so, .inl (G.2.1 0, 8, .inl (upd (soS g h (nI c) (sm g n) i) i (((g i) * (nI c)) / (sm g n)))))]]) rfl ?_
          refine V_iload_n hC dX5_shareOut_46 3 rfl ?_
          refine V_aload_n hC dX5_shareOut_47 0 rfl ?_
          refine V_get hC dX5_shareOut_48 inAX5 (mem_at 0 0 rfl rfl) rfl 3 (by decide) q59 rfl (v := .ref so) rfl ?_
          refine V_iload hC dX5_shareOut_51 4 rfl ?_
          refine V_iald hC dX5_shareOut_53 (mem_at 3 0 rfl rfl) (vp_in_nI (by omega) (by omega)) (x := i) (nI_clamp (by omega)) ?_
          refine V_eqi (y := g i * nI c / sm g n) (pk_us) ?_
          refine V_isub hC dX5_shareOut_54 ?_
          refine V_istore_n hC dX5_shareOut_55 (L' := [(3, .int ((soL g (nI c) (sm g n) (mn (nI c) (sm g n)) i) - (g i * nI c / sm g n))), (0, .ref a), (1, .int (nI c)), (2, .int (sm g n)), (4, .int (nI i))]) (by decide) rfl ?_
          refine V_iinc hC dX5_shareOut_56 (v := nI (i + 1)) (L' := [(4, .int (nI (i + 1))), (3, .int ((soL g (nI c) (sm g n) (mn (nI c) (sm g n)) i) - (g i * nI c / sm g n))), (0, .ref a), (1, .int (nI c)), (2, .int (sm g n))]) (j := 4) rfl (nI_1 _) (by decide) rfl ?_
          refine V_goto hC dX5_shareOut_59 (tgt := 19) (by decide) ?_
          refine V_loc (L' := [(0, .ref a), (1, .int (nI c)), (2, .int (sm g n)), (3, .int ((soL g (nI c) (sm g n) (mn (nI c) (sm g n)) i) - (g i * nI c / sm g n))), (4, .int (nI (i + 1)))]) [2, 3, 4, 1, 0] rfl ?_
          exact ih (i + 1) (by omega) (by omega)
    refine V_loc (L' := [(0, .ref a), (1, .int (nI c)), (2, .int (sm g n)), (3, .int (mn (nI c) (sm g n))), (4, .int 0)]) [3, 4, 2, 1, 0] rfl ?_
    exact loop2 (n + 1) 0 (Nat.zero_le _) (by omega)
  · have hz : sm g n = 0 := by first | exact h1 | exact Decidable.not_not.mp h1
    exact V_vret hC hQ hr [0, 1, 2, 3] (u := [[(a, .inr (6, [.int (nI n), .ref bo, .ref pa, .ref so]))], [(bo, .inl (G.2.1 0, 8, .inl f))], [(pa, .inl (G.2.1 0, 8, .inl g))], [(so, .inl (G.2.1 0, 8, .inl h))]]) (by decide) rfl (by decide) (by decide) dX5_shareOut_9 (by simp [soAll, hz])
set_option maxHeartbeats 4000000 in
set_option maxRecDepth 100000 in
/-- ClinkerWorks$Pile.takeShares -/
theorem c_X5_takeShares (l : Launch) (G : VG) (a bo pa so n : Nat) (f g h : Nat → Int32) (pb : Nat) (w : Nat → Int32) (hn : n ≤ 8) (hf : ∀ j, j < n → ∃ v : Nat, v < 6 ∧ f j = nI v) : Mv l G yX5_takeShares cX5_takeShares 5 1 21 0 0 [.ref a, .ref pb] [[(a, .inr (6, [.int (nI n), .ref bo, .ref pa, .ref so]))], [(bo, .inl (G.2.1 0, 8, .inl f))], [(pa, .inl (G.2.1 0, 8, .inl g))], [(so, .inl (G.2.1 0, 8, .inl h))], [(pb, .inl (G.2.1 0, 6, .inl w))]] (fun u => u = [[(a, .inr (6, [.int (nI (tsF f g h w n).1), .ref bo, .ref pa, .ref so]))], [(bo, .inl (G.2.1 0, 8, .inl ((tsF f g h w n).2.1)))], [(pa, .inl (G.2.1 0, 8, .inl ((tsF f g h w n).2.2.1)))], [(so, .inl (G.2.1 0, 8, .inl h))], [(pb, .inl (G.2.1 0, 6, .inl ((tsF f g h w n).2.2.2)))]]) := by
  refine Mv_of (by decide) (Nat.le_of_ble_eq_true rfl) (fun pP eE sS mM aA bB tT cC AA QQ hC hr hnm hQ => ?_)
  refine V_iconst hC dX5_takeShares_0 (v := 0) (by decide) ?_
  refine V_istore_n hC dX5_takeShares_1 (L' := [(2, .int 0), (0, .ref a), (1, .ref pb)]) (by decide) rfl ?_
  refine V_iconst hC dX5_takeShares_2 (v := 0) (by decide) ?_
  refine V_istore_n hC dX5_takeShares_3 (L' := [(3, .int 0), (2, .int 0), (0, .ref a), (1, .ref pb)]) (by decide) rfl ?_
  have loop1 : ∀ (fuel : Nat) (i : Nat) (hi : i ≤ n) (_ : n - i < fuel), V pP l eE { frames := 1, cells := 0, slots := 0, locals := 21 } sS mM aA bB tT cC QQ G AA 5 [[(a, .inr (6, [.int (nI n), .ref bo, .ref pa, .ref so]))], [(bo, .inl (G.2.1 0, 8, .inl ((tsF f g h w i).2.1)))], [(pa, .inl (G.2.1 0, 8, .inl ((tsF f g h w i).2.2.1)))], [(so, .inl (G.2.1 0, 8, .inl h))], [(pb, .inl (G.2.1 0, 6, .inl ((tsF f g h w i).2.2.2)))]] 0 0 4 [(0, .ref a), (1, .ref pb), (2, .int (nI (tsF f g h w i).1)), (3, .int (nI i))] [] := by
    intro fuel
    induction fuel with
    | zero => intro i hi hm; exact absurd hm (Nat.not_lt_zero _)
    | succ fuel ih =>
      intro i hi hm
      refine V_iload_n hC dX5_takeShares_4 3 rfl ?_
      refine V_aload_n hC dX5_takeShares_5 0 rfl ?_
      refine V_get hC dX5_takeShares_6 inAX5 (mem_at 0 0 rfl rfl) rfl 0 (by decide) q53 rfl (v := .int (nI n)) rfl ?_
      refine V_icmp_ge hC dX5_takeShares_9 (tgt := 92) (by decide) (fun h2 => ?_) (fun h2 => ?_)
      · have he : i = n := by have := nle h2; omega
        rw [he]
        refine V_aload_n hC dX5_takeShares_92 0 rfl ?_
        refine V_iload_n hC dX5_takeShares_93 2 rfl ?_
        refine V_put hC dX5_takeShares_94 inAX5 tyX5 tyX5_ok nmX5 0 0 rfl rfl rfl 0 (by decide) q53 rfl rfl (rfl) (rfl) (Nat.le_of_ble_eq_true rfl) (ps' := [[(a, .inr (6, [.int (nI (tsF f g h w n).1), .ref bo, .ref pa, .ref so]))], [(bo, .inl (G.2.1 0, 8, .inl ((tsF f g h w n).2.1)))], [(pa, .inl (G.2.1 0, 8, .inl ((tsF f g h w n).2.2.1)))], [(so, .inl (G.2.1 0, 8, .inl h))], [(pb, .inl (G.2.1 0, 6, .inl ((tsF f g h w n).2.2.2)))]]) rfl ?_
        exact V_vret hC hQ hr [0, 1, 2, 3, 4] (u := [[(a, .inr (6, [.int (nI (tsF f g h w n).1), .ref bo, .ref pa, .ref so]))], [(bo, .inl (G.2.1 0, 8, .inl ((tsF f g h w n).2.1)))], [(pa, .inl (G.2.1 0, 8, .inl ((tsF f g h w n).2.2.1)))], [(so, .inl (G.2.1 0, 8, .inl h))], [(pb, .inl (G.2.1 0, 6, .inl ((tsF f g h w n).2.2.2)))]]) (by decide) rfl (by decide) (by decide) dX5_takeShares_97 (rfl)
      · have hlt := nnle h2
        obtain ⟨v, hv, hfi⟩ := hf i hlt
        have hcv : (f i).toNatClampNeg = v := by rw [hfi]; exact nI_clamp (by omega)
        have hkk := tsF_k f g h w i
        refine V_aload_n hC dX5_takeShares_12 0 rfl ?_
        refine V_get hC dX5_takeShares_13 inAX5 (mem_at 0 0 rfl rfl) rfl 1 (by decide) q55 rfl (v := .ref bo) rfl ?_
        refine V_iload_n hC dX5_takeShares_16 3 rfl ?_
        refine V_iald hC dX5_takeShares_17 (mem_at 1 0 rfl rfl) (vp_in_nI (by omega) (by omega)) (x := i) (nI_clamp (by omega)) ?_
        refine V_eqi (y := nI v) ((tsF_b f g h w i i (Nat.le_refl _)).1.trans hfi) ?_
        refine V_aload_n hC dX5_takeShares_18 1 rfl ?_
        refine V_alen hC dX5_takeShares_19 0 rfl (mem_at 4 0 rfl rfl) (v := 6) (rfl) ?_
        refine V_calli hC (V_runSN hC (rest := []) (host := "ClinkerWorks") [.int (nI v), .int 6] (c_X8_isIndex l G (nI v) 6) [] rfl (by decide) (nest_mem (by decide +kernel)) q435 q20 q436 ⟨by decide, by decide, rfl⟩ ⟨by decide, by decide⟩ rfl (Nat.le_of_ble_eq_true rfl) ⟨by decide, by decide⟩ dX5_takeShares_20) (is := []) rfl [0, 1, 2, 3, 4] (rs := [[(a, .inr (6, [.int (nI n), .ref bo, .ref pa, .ref so]))], [(bo, .inl (G.2.1 0, 8, .inl ((tsF f g h w i).2.1)))], [(pa, .inl (G.2.1 0, 8, .inl ((tsF f g h w i).2.2.1)))], [(so, .inl (G.2.1 0, 8, .inl h))], [(pb, .inl (G.2.1 0, 6, .inl ((tsF f g h w i).2.2.2)))]]) rfl (by decide) (by decide) ?_
        rintro _ _ ⟨rfl, rfl⟩
        refine V_eqi (y := 1) (ixB_in (N := 6) hv) ?_
        refine V_if_eqF hC dX5_takeShares_23 (tgt := 43) (by decide) (by decide) ?_
        refine V_aload_n hC dX5_takeShares_26 1 rfl ?_
        refine V_aload_n hC dX5_takeShares_27 0 rfl ?_
        refine V_get hC dX5_takeShares_28 inAX5 (mem_at 0 0 rfl rfl) rfl 1 (by decide) q55 rfl (v := .ref bo) rfl ?_
        refine V_iload_n hC dX5_takeShares_31 3 rfl ?_
        refine V_iald hC dX5_takeShares_32 (mem_at 1 0 rfl rfl) (vp_in_nI (by omega) (by omega)) (x := i) (nI_clamp (by omega)) ?_
        refine V_eqi (y := nI v) ((tsF_b f g h w i i (Nat.le_refl _)).1.trans hfi) ?_
        refine V_dup2 hC dX5_takeShares_33 rfl rfl ?_
        refine V_iald hC dX5_takeShares_34 (mem_at 4 0 rfl rfl) (vp_in_nI (by omega) (by omega)) (x := v) (nI_clamp (by omega)) ?_
        refine V_aload_n hC dX5_takeShares_35 0 rfl ?_
        refine V_get hC dX5_takeShares_36 inAX5 (mem_at 0 0 rfl rfl) rfl 3 (by decide) q59 rfl (v := .ref so) rfl ?_
        refine V_iload_n hC dX5_takeShares_39 3 rfl ?_
        refine V_iald hC dX5_takeShares_40 (mem_at 3 0 rfl rfl) (vp_in_nI (by omega) (by omega)) (x := i) (nI_clamp (by omega)) ?_
        refine V_iadd hC dX5_takeShares_41 ?_
        refine V_iast hC dX5_takeShares_42 4 0 rfl rfl (vp_in_nI (by omega) (by omega)) (z := v) (nI_clamp (by omega)) (ps' := [[(a, .inr (6, [.int (nI n), .ref bo, .ref pa, .ref so]))], [(bo, .inl (G.2.1 0, 8, .inl ((tsF f g h w i).2.1)))], [(pa, .inl (G.2.1 0, 8, .inl ((tsF f g h w i).2.2.1)))], [(so, .inl (G.2.1 0, 8, .inl h))], [(pb, .inl (G.2.1 0, 6, .inl (upd ((tsF f g h w i).2.2.2) v ((((tsF f g h w i).2.2.2) v) + (h i)))))]]) rfl ?_
        refine V_aload_n hC dX5_takeShares_43 0 rfl ?_
        refine V_get hC dX5_takeShares_44 inAX5 (mem_at 0 0 rfl rfl) rfl 2 (by decide) q57 rfl (v := .ref pa) rfl ?_
        refine V_iload_n hC dX5_takeShares_47 3 rfl ?_
        refine V_iald hC dX5_takeShares_48 (mem_at 2 0 rfl rfl) (vp_in_nI (by omega) (by omega)) (x := i) (nI_clamp (by omega)) ?_
        refine V_eqi (y := g i) ((tsF_b f g h w i i (Nat.le_refl _)).2) ?_
        refine V_aload_n hC dX5_takeShares_49 0 rfl ?_
        refine V_get hC dX5_takeShares_50 inAX5 (mem_at 0 0 rfl rfl) rfl 3 (by decide) q59 rfl (v := .ref so) rfl ?_
        refine V_iload_n hC dX5_takeShares_53 3 rfl ?_
        refine V_iald hC dX5_takeShares_54 (mem_at 3 0 rfl rfl) (vp_in_nI (by omega) (by omega)) (x := i) (nI_clamp (by omega)) ?_
        refine V_isub hC dX5_takeShares_55 ?_
        refine V_istore hC dX5_takeShares_56 (L' := [(4, .int ((g i) - (h i))), (0, .ref a), (1, .ref pb), (2, .int (nI (tsF f g h w i).1)), (3, .int (nI i))]) (by decide) rfl ?_
        refine V_iload hC dX5_takeShares_58 0 rfl ?_
        refine V_if_le hC dX5_takeShares_60 (tgt := 86) (by decide) (fun h3 => ?_) (fun h3 => ?_)
        · refine V_iinc hC dX5_takeShares_86 (v := nI (i + 1)) (L' := [(3, .int (nI (i + 1))), (4, .int ((g i) - (h i))), (0, .ref a), (1, .ref pb), (2, .int (nI (tsF f g h w i).1))]) (j := 4) rfl (nI_1 _) (by decide) rfl ?_
          refine V_goto hC dX5_takeShares_89 (tgt := 4) (by decide) ?_
          refine V_loc (L' := [(0, .ref a), (1, .ref pb), (2, .int (nI (tsF f g h w i).1)), (3, .int (nI (i + 1)))]) [2, 3, 4, 0] rfl ?_
          have e : tsF f g h w (i + 1) = ((tsF f g h w i).1, (tsF f g h w i).2.1, (tsF f g h w i).2.2.1, upd (tsF f g h w i).2.2.2 v ((tsF f g h w i).2.2.2 v + h i)) := by
            show (if 0 < g i - h i then _ else _) = _
            rw [hcv, if_neg (i32_nlt h3)]
          have hh := ih (i + 1) (by omega) (by omega)
          rw [e] at hh
          exact hh
        · refine V_aload_n hC dX5_takeShares_63 1 rfl ?_
          refine V_get hC dX5_takeShares_64 inAX5 (mem_at 0 0 rfl rfl) rfl 1 (by decide) q55 rfl (v := .ref bo) rfl ?_
          refine V_iload_n hC dX5_takeShares_67 3 rfl ?_
          refine V_aload_n hC dX5_takeShares_68 1 rfl ?_
          refine V_get hC dX5_takeShares_69 inAX5 (mem_at 0 0 rfl rfl) rfl 1 (by decide) q55 rfl (v := .ref bo) rfl ?_
          refine V_iload_n hC dX5_takeShares_72 4 rfl ?_
          refine V_iald hC dX5_takeShares_73 (mem_at 1 0 rfl rfl) (vp_in_nI (by omega) (by omega)) (x := i) (nI_clamp (by omega)) ?_
          refine V_eqi (y := f i) ((tsF_b f g h w i i (Nat.le_refl _)).1) ?_
          refine V_iast hC dX5_takeShares_74 1 0 rfl rfl (vp_in_nI (by omega) (by omega)) (z := (tsF f g h w i).1) (nI_clamp (by omega)) (ps' := [[(a, .inr (6, [.int (nI n), .ref bo, .ref pa, .ref so]))], [(bo, .inl (G.2.1 0, 8, .inl (upd ((tsF f g h w i).2.1) ((tsF f g h w i).1) (f i))))], [(pa, .inl (G.2.1 0, 8, .inl ((tsF f g h w i).2.2.1)))], [(so, .inl (G.2.1 0, 8, .inl h))], [(pb, .inl (G.2.1 0, 6, .inl (upd ((tsF f g h w i).2.2.2) v ((((tsF f g h w i).2.2.2) v) + (h i)))))]]) rfl ?_
          refine V_aload_n hC dX5_takeShares_75 1 rfl ?_
          refine V_get hC dX5_takeShares_76 inAX5 (mem_at 0 0 rfl rfl) rfl 2 (by decide) q57 rfl (v := .ref pa) rfl ?_
          refine V_iload_n hC dX5_takeShares_79 3 rfl ?_
          refine V_iload hC dX5_takeShares_80 0 rfl ?_
          refine V_iast hC dX5_takeShares_82 2 0 rfl rfl (vp_in_nI (by omega) (by omega)) (z := (tsF f g h w i).1) (nI_clamp (by omega)) (ps' := [[(a, .inr (6, [.int (nI n), .ref bo, .ref pa, .ref so]))], [(bo, .inl (G.2.1 0, 8, .inl (upd ((tsF f g h w i).2.1) ((tsF f g h w i).1) (f i))))], [(pa, .inl (G.2.1 0, 8, .inl (upd ((tsF f g h w i).2.2.1) ((tsF f g h w i).1) ((g i) - (h i)))))], [(so, .inl (G.2.1 0, 8, .inl h))], [(pb, .inl (G.2.1 0, 6, .inl (upd ((tsF f g h w i).2.2.2) v ((((tsF f g h w i).2.2.2) v) + (h i)))))]]) rfl ?_
          refine V_iinc hC dX5_takeShares_83 (v := nI ((tsF f g h w i).1 + 1)) (L' := [(2, .int (nI ((tsF f g h w i).1 + 1))), (4, .int ((g i) - (h i))), (0, .ref a), (1, .ref pb), (3, .int (nI i))]) (j := 3) rfl (nI_1 _) (by decide) rfl ?_
          refine V_iinc hC dX5_takeShares_86 (v := nI (i + 1)) (L' := [(3, .int (nI (i + 1))), (2, .int (nI ((tsF f g h w i).1 + 1))), (4, .int ((g i) - (h i))), (0, .ref a), (1, .ref pb)]) (j := 4) rfl (nI_1 _) (by decide) rfl ?_
          refine V_goto hC dX5_takeShares_89 (tgt := 4) (by decide) ?_
          refine V_loc (L' := [(0, .ref a), (1, .ref pb), (2, .int (nI ((tsF f g h w i).1 + 1))), (3, .int (nI (i + 1)))]) [3, 4, 1, 0] rfl ?_
          have e : tsF f g h w (i + 1) = ((tsF f g h w i).1 + 1, upd (tsF f g h w i).2.1 (tsF f g h w i).1 (f i), upd (tsF f g h w i).2.2.1 (tsF f g h w i).1 (g i - h i), upd (tsF f g h w i).2.2.2 v ((tsF f g h w i).2.2.2 v + h i)) := by
            show (if 0 < g i - h i then _ else _) = _
            rw [hcv, if_pos (i32_lt h3)]
          have hh := ih (i + 1) (by omega) (by omega)
          rw [e] at hh
          exact hh
  refine V_loc (L' := [(0, .ref a), (1, .ref pb), (2, .int 0), (3, .int 0)]) [2, 3, 1, 0] rfl ?_
  exact loop1 (n + 1) 0 (Nat.zero_le _) (by omega)
