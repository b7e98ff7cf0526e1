/-! ===== the law ===== -/
set_option maxHeartbeats 8000000 in
set_option maxRecDepth 100000 in
/-- the law, from its entry to its end with true -/
theorem law_V {pP : Program} {l : Launch} {eE : Env} {sS : State} {mM : MethodId} {aA : Array Value} {bB : List Frame} {tT : Method} {cC : Code} {QQ : State → Prop} {G : VG} {AA : Nat → Prop} (hC : VC pP sS mM aA tT cC G AA 22 cL_law "ClinkerWorksLaw") (hl0 : l.stackTraces = false) (hEnd : ∀ (kc ns : Nat) (L : List (Nat × Value)), kc ≤ 853861 → ns ≤ 6540115 → V pP l eE room_1 sS mM aA bB tT cC QQ G AA 22 [] kc ns 718 L [.int 1]) : V pP l eE room_1 sS mM aA bB tT cC QQ G AA 22 [] 0 0 0 [(0, .ref (G.2.2 1))] [] := by
  refine V_iconst hC dL_law_0 (v := 0) (by decide) ?_
  refine V_istore_n hC dL_law_1 (L' := [(1, .int 0), (0, .ref (G.2.2 1))]) (by decide) rfl ?_
  have loop1 : ∀ (fuel : Nat) (time : Nat) (ht : time ≤ 2) (_ : 2 - time < fuel), V pP l eE room_1 sS mM aA bB tT cC QQ G AA 22 [] (1100 * time) (9000 * time) 2 [(0, .ref (G.2.2 1)), (1, .int (nI time))] [] := by
    intro fuel
    induction fuel with
    | zero => intro time ht hm; exact absurd hm (Nat.not_lt_zero _)
    | succ fuel ih =>
      intro time ht hm
      have iht := ih
      refine V_iload_n hC dL_law_2 1 rfl ?_
      refine V_iconst hC dL_law_3 (v := 2) (by decide) ?_
      refine V_icmp_ge hC dL_law_4 (tgt := 717) (by decide) (fun h2 => ?_) (fun h2 => ?_)
      · refine V_iconst hC dL_law_717 (v := 1) (by decide) ?_
        exact hEnd _ _ _ (by omega) (by omega)
      · have hlt2 : time < 2 := nnle (a := 2) h2
        refine V_new hC inAX9 tyX9 tyX9_ok (ci := 10) rfl q710 q711 q19 (fs := [.null, .null, .int 0, .null, .null, .null]) (by decide +kernel) (by show 1100 * time + 1 ≤ 853861; omega) (by show 9000 * time + 6 ≤ 6540115; omega) dL_law_7 (fun t => ?_)
        refine V_dup hC dL_law_10 rfl ?_
        refine V_aload_n hC dL_law_11 0 rfl ?_
        refine V_bipush hC dL_law_12 (v := 31) (by decide) ?_
        refine V_iload_n hC dL_law_14 1 rfl ?_
        refine V_imul hC dL_law_15 ?_
        refine V_eqi (y := nI (31 * time)) (pk_mul 31 time) ?_
        refine V_bipush hC dL_law_16 (v := 7) (by decide) ?_
        refine V_iadd hC dL_law_18 ?_
        refine V_eqi (y := nI (31 * time + 7)) (nI_add (31 * time) 7) ?_
        refine V_callv hC (V_runI hC (rest := [.ref t]) [.ref (G.2.2 1), .int (nI (31 * time + 7))] (c_X9_init l G t (31 * time + 7)) [0] rfl (by decide) q712 q713 q19 q714 rfl ⟨by decide, by decide, rfl⟩ ⟨by decide, by decide⟩ rfl (Nat.le_of_ble_eq_true rfl) ⟨(by show 1100 * time + 1 + 190 ≤ 853861; omega), (by show 9000 * time + 6 + 900 ≤ 6540115; omega)⟩ dL_law_19) (is := [0]) rfl [] (rs := []) rfl (by decide) (by decide) ?_
        rintro _ ⟨m, ba, la, wa, P93, hW3, rfl⟩
        refine V_astore_n hC dL_law_22 (L' := [(2, .ref t), (0, .ref (G.2.2 1)), (1, .int (nI time))]) (by decide) rfl ?_
        refine V_new hC inAX8 tyX8 tyX8_ok (ci := 9) rfl q37 q38 q20 (fs := [.null, .int 0, .null, .null, .null, .null, .null, .null, .int 0, .int 0, .null, .int 0, .null, .int 0]) (by decide +kernel) (by show 1100 * time + 1 + 190 + 1 ≤ 853861; omega) (by show 9000 * time + 6 + 900 + 14 ≤ 6540115; omega) dL_law_23 (fun o => ?_)
        refine V_dup hC dL_law_26 rfl ?_
        refine V_callv hC (V_runI hC (rest := [.ref o]) [] (w_init l G o) [8] rfl (by decide) q39 q40 q20 q41 rfl ⟨by decide, by decide, rfl⟩ ⟨by decide, by decide⟩ rfl (Nat.le_of_ble_eq_true rfl) ⟨(by show 1100 * time + 1 + 190 + 1 + 181 ≤ 853861; omega), (by show 9000 * time + 6 + 900 + 14 + 879 ≤ 6540115; omega)⟩ dL_law_27) (is := [8]) rfl [0, 1, 2, 3, 4, 5, 6, 7] (rs := [[(t, .inr (10, [.ref m, .ref (G.2.2 1), .int (nI (31 * time + 7)), .ref ba, .ref la, .ref wa]))], [(ba, .inl (G.2.1 9, 0, .inr (.inr (.inr (.inr (rfN 0 (fun _ => 0 : Nat → Nat)))))))], famW 0 (fun ι => iaP G ((fun _ => 0 : Nat → Nat) ι) 5 ((fun _ _ => 0 : Nat → Nat → Int32) ι)), [(la, .inl (G.2.1 9, 0, .inr (.inr (.inr (.inr (rfN 0 (fun _ => 0 : Nat → Nat)))))))], famW 0 (fun ι => iaP G ((fun _ => 0 : Nat → Nat) ι) 2 ((fun _ _ => 0 : Nat → Nat → Int32) ι)), [(wa, .inl (G.2.1 9, 0, .inr (.inr (.inr (.inr (rfN 0 (fun _ => 0 : Nat → Nat)))))))], noW, P93]) rfl (by decide) (by decide) ?_
        rintro _ ⟨P94, hW4, rfl⟩
        refine V_astore_n hC dL_law_30 (L' := [(3, .ref o), (2, .ref t), (0, .ref (G.2.2 1)), (1, .int (nI time))]) (by decide) rfl ?_
        refine V_aload_n hC dL_law_31 1 rfl ?_
        refine V_get hC dL_law_32 inAX9 (mem_at 1 0 rfl rfl) rfl 0 (by decide) q721 rfl (v := .ref m) rfl ?_
        refine V_astore hC dL_law_35 (L' := [(4, .ref m), (3, .ref o), (2, .ref t), (0, .ref (G.2.2 1)), (1, .int (nI time))]) (by decide) rfl ?_
        refine V_aload_n hC dL_law_37 2 rfl ?_
        refine V_calli hC (V_runV hC (rest := []) [] (c_X9_found l hl0 G t m ba la wa (31 * time + 7) (fun _ => 0 : Nat → Nat) (fun _ => 0 : Nat → Nat) (fun _ _ => 0 : Nat → Nat → Int32) (fun _ _ => 0 : Nat → Nat → Int32) P93 hW3 (by omega)) [1, 2, 3, 4, 5, 8] rfl (by decide) q789 q790 q791 q19 q792 ⟨by decide, by decide, rfl⟩ ⟨by decide, by decide⟩ (ci := 10) rfl (mem_at 1 0 rfl rfl) rfl (Nat.le_of_ble_eq_true rfl) ⟨(by show 1100 * time + 1 + 190 + 1 + 181 + 60 ≤ 853861; omega), (by show 9000 * time + 6 + 900 + 14 + 879 + 560 ≤ 6540115; omega)⟩ dL_law_38) (is := [1, 2, 3, 4, 5, 8]) rfl [0, 6, 7] (rs := [P94, [(wa, .inl (G.2.1 9, 0, .inr (.inr (.inr (.inr (rfN 0 (fun _ => 0 : Nat → Nat)))))))], noW]) rfl (by decide) (by decide) ?_
        rintro _ _ ⟨e9, bq, lq, n, bE, lE, bl, lx, bz, f, g, st, p, P95, rfl, he9, hB, hX, hW5, rfl⟩
        refine V_if_neT hC dL_law_41 (tgt := 46) (by decide) (by decide) ?_
        refine V_aload_n hC dL_law_46 2 rfl ?_
        refine V_aload_n hC dL_law_47 1 rfl ?_
        refine V_callv hC (V_runS hC (rest := []) [.ref t, .ref o] (c_L_copy l hl0 G t m bq lq wa e9 bE bl lE lx o bz n f g st p P94 hW4 hB hX) [0, 1, 2, 3, 4, 6] rfl (by decide) q827 q828 q18 q829 ⟨by decide, by decide, rfl⟩ ⟨by decide, by decide⟩ rfl (Nat.le_of_ble_eq_true rfl) ⟨(by show 1100 * time + 1 + 190 + 1 + 181 + 60 + 50 ≤ 853861; omega), (by show 9000 * time + 6 + 900 + 14 + 879 + 560 + 300 ≤ 6540115; omega)⟩ dL_law_48) (is := [0, 1, 2, 3, 4, 6]) rfl [5, 7, 8] (rs := [P95, [(wa, .inl (G.2.1 9, 0, .inr (.inr (.inr (.inr (rfN 0 (fun _ => 0 : Nat → Nat)))))))], noW]) rfl (by decide) (by decide) ?_
        rintro _ ⟨bz1, f9, g9, P96, hb, hfg, hk01, hW6, rfl⟩
        refine V_iconst hC dL_law_51 (v := 0) (by decide) ?_
        refine V_istore hC dL_law_52 (L' := [(5, .int 0), (4, .ref m), (3, .ref o), (2, .ref t), (0, .ref (G.2.2 1)), (1, .int (nI time))]) (by decide) rfl ?_
        refine V_widen (show 1100 * time + 1 + 190 + 1 + 181 + 60 + 50 ≤ 1100 * time + 500 by omega) (show 9000 * time + 6 + 900 + 14 + 879 + 560 + 300 ≤ 9000 * time + 3000 by omega) ?_
        refine V_iconst hC dL_law_54 (v := 0) (by decide) ?_
        refine V_istore hC dL_law_55 (L' := [(6, .int 0), (5, .int 0), (4, .ref m), (3, .ref o), (2, .ref t), (0, .ref (G.2.2 1)), (1, .int (nI time))]) (by decide) rfl ?_
        have loop7 : ∀ (fuel : Nat) (k : Nat) (e9 n q lq wq M : Nat) (lE wE : Nat → Nat) (lx : Nat → Nat → Int32) (f g f1 g1 : Nat → Int32) (p : Nat → Nat) (S S1 : KS) (nl : Nat) (lz lz1 : Nat → LV) (Ww Pm Po : va_W) (hk : k ≤ 9) (hd : e9 ≤ 66 + 9 * k) (hI : lwI bz bz1 bl n f g f1 g1 p lx S S1 nl lz lz1 M) (hWm : isW G m 4 bz n f g S nl lz Pm) (hWo : isW G o 4 bz1 n f1 g1 S1 nl lz1 Po) (hq : q = S.2.1) (hwA : ∀ i, i < q → iaIn G Ww (wE i)) (_ : 9 - k < fuel), V pP l eE room_1 sS mM aA bB tT cC QQ G AA 22 [[(t, .inr (10, [.ref m, .ref (G.2.2 1), .int (nI e9), .ref bq, .ref lq, .ref wq]))], [(bq, .inl (G.2.1 9, 4, .inr (.inr (.inr (.inr (rfN 4 bE))))))], famW 4 (fun ι => iaP G (bE ι) 5 (bl ι)), [(lq, .inl (G.2.1 9, n, .inr (.inr (.inr (.inr (rfN n lE))))))], famW n (fun ι => iaP G (lE ι) 2 (lx ι)), [(wq, .inl (G.2.1 9, q, .inr (.inr (.inr (.inr (rfN q wE))))))], Ww, Pm, Po] (1100 * time + 500 + 60 * k) (9000 * time + 3000 + 600 * k) 57 [(0, .ref (G.2.2 1)), (1, .int (nI time)), (2, .ref t), (3, .ref o), (4, .ref m), (5, .int (nI M)), (6, .int (nI k))] [] := by
          intro fuel
          induction fuel with
          | zero => intro k e9 n q lq wq M lE wE lx f g f1 g1 p S S1 nl lz lz1 Ww Pm Po hk hd hI hWm hWo hq hwA hm; exact absurd hm (Nat.not_lt_zero _)
          | succ fuel ih =>
            intro k e9 n q lq wq M lE wE lx f g f1 g1 p S S1 nl lz lz1 Ww Pm Po hk hd hI hWm hWo hq hwA hm
            have ihk := ih
            have hok := lw_ok hI
            have hS3 : S.2.1 ≤ 3 := hI.2.2.1.2.1.1
            have hkE : kEq S S1 := hI.2.2.1.1
            have hM12 : nl + (cnt5 S.2.2.1 + S.2.1) = M ∧ M ≤ 12 := hI.2.2.2.2.2.2
            refine V_iload hC dL_law_57 6 rfl ?_
            refine V_bipush hC dL_law_59 (v := 9) (by decide) ?_
            refine V_icmp_ge hC dL_law_61 (tgt := 711) (by decide) (fun h8 => ?_) (fun h8 => ?_)
            · refine V_iinc hC dL_law_711 (v := nI (time + 1)) (L' := [(1, .int (nI (time + 1))), (0, .ref (G.2.2 1)), (2, .ref t), (3, .ref o), (4, .ref m), (5, .int (nI M)), (6, .int (nI k))]) (j := 1) rfl (nI_1 _) (by decide) rfl ?_
              refine V_goto hC dL_law_714 (tgt := 2) (by decide) ?_
              refine V_loc (L' := [(0, .ref (G.2.2 1)), (1, .int (nI (time + 1)))]) [1, 0] rfl ?_
              refine V_sub [] (by decide) (u := []) rfl ?_
              refine V_widen (show 1100 * time + 500 + 60 * k ≤ 1100 * (time + 1) by omega) (show 9000 * time + 3000 + 600 * k ≤ 9000 * (time + 1) by omega) ?_
              exact iht (time + 1) (by omega) (by omega)
            · have hk9 : k < 9 := nnle (a := 9) h8
              have J568 : ∀ (e9 n q lq wq M : Nat) (lE wE : Nat → Nat) (lx : Nat → Nat → Int32) (f g f1 g1 : Nat → Int32) (p : Nat → Nat) (S S1 : KS) (nl : Nat) (lz lz1 : Nat → LV) (Ww Pm Po : va_W) (hd : e9 ≤ 66 + 9 * k + 8) (hI : lwI bz bz1 bl n f g f1 g1 p lx S S1 nl lz lz1 M) (hWm : isW G m 4 bz n f g S nl lz Pm) (hWo : isW G o 4 bz1 n f1 g1 S1 nl lz1 Po) (hq : S.2.1 ≤ q) (hwA : ∀ i, i < q → iaIn G Ww (wE i)) (hq3 : q ≤ 3), V pP l eE room_1 sS mM aA bB tT cC QQ G AA 22 [[(t, .inr (10, [.ref m, .ref (G.2.2 1), .int (nI e9), .ref bq, .ref lq, .ref wq]))], [(bq, .inl (G.2.1 9, 4, .inr (.inr (.inr (.inr (rfN 4 bE))))))], famW 4 (fun ι => iaP G (bE ι) 5 (bl ι)), [(lq, .inl (G.2.1 9, n, .inr (.inr (.inr (.inr (rfN n lE))))))], famW n (fun ι => iaP G (lE ι) 2 (lx ι)), [(wq, .inl (G.2.1 9, q, .inr (.inr (.inr (.inr (rfN q wE))))))], Ww, Pm, Po] (1100 * time + 500 + 60 * k + 46) (9000 * time + 3000 + 600 * k + 400) 568 [(0, .ref (G.2.2 1)), (1, .int (nI time)), (2, .ref t), (3, .ref o), (4, .ref m), (5, .int (nI M)), (6, .int (nI k))] [] := by
                intro e9 n q lq wq M lE wE lx f g f1 g1 p S S1 nl lz lz1 Ww Pm Po hd hI hWm hWo hq hwA hq3
                have hok := lw_ok hI
                have hS3 : S.2.1 ≤ 3 := hI.2.2.1.2.1.1
                have hkE : kEq S S1 := hI.2.2.1.1
                have hM12 : nl + (cnt5 S.2.2.1 + S.2.1) = M ∧ M ≤ 12 := hI.2.2.2.2.2.2
                refine V_iconst hC dL_law_568 (v := 0) (by decide) ?_
                refine V_newA hC q833 (N := 0) (by decide) (by decide) (by decide) (by show 1100 * time + 500 + 60 * k + 46 + 1 ≤ 853861; omega) (by show 9000 * time + 3000 + 600 * k + 400 + 0 ≤ 6540115; omega) dL_law_569 (fun lv0 => ?_)
                refine V_astore hC dL_law_572 (L' := [(18, .ref lv0), (0, .ref (G.2.2 1)), (1, .int (nI time)), (2, .ref t), (3, .ref o), (4, .ref m), (5, .int (nI M)), (6, .int (nI k))]) (by decide) rfl ?_
                refine V_aload_n hC dL_law_574 3 rfl ?_
                refine V_get hC dL_law_575 inAX9 (mem_at 0 0 rfl rfl) rfl 5 (by decide) q729 rfl (v := .ref wq) rfl ?_
                refine V_alen hC dL_law_578 9 rfl (mem_at 5 0 rfl rfl) (v := nI q) (rfl) ?_
                refine V_aload hC dL_law_579 5 rfl ?_
                refine V_iconst hC dL_law_581 (v := 3) (by decide) ?_
                obtain ⟨fshm9, hm9⟩ := isW_mem hWm
                refine V_calli hC (V_runV hC (rest := [.int (nI q)]) [.int 3] (w_many l G m 4 bz n f g S nl lz Pm 3 hWm hok.1 (by decide)) [7] rfl (by decide) q587 q588 q589 q20 q590 ⟨by decide, by decide, rfl⟩ ⟨by decide, by decide⟩ (ci := 9) rfl (mem_pc 7 rfl hm9) rfl (Nat.le_of_ble_eq_true rfl) ⟨(by show 1100 * time + 500 + 60 * k + 46 + 1 + 0 ≤ 853861; omega), (by show 9000 * time + 3000 + 600 * k + 400 + 0 ≤ 6540115; omega)⟩ dL_law_582) (is := [7]) rfl [0, 1, 2, 3, 4, 5, 6, 8, 9] (rs := [[(t, .inr (10, [.ref m, .ref (G.2.2 1), .int (nI e9), .ref bq, .ref lq, .ref wq]))], [(bq, .inl (G.2.1 9, 4, .inr (.inr (.inr (.inr (rfN 4 bE))))))], famW 4 (fun ι => iaP G (bE ι) 5 (bl ι)), [(lq, .inl (G.2.1 9, n, .inr (.inr (.inr (.inr (rfN n lE))))))], famW n (fun ι => iaP G (lE ι) 2 (lx ι)), [(wq, .inl (G.2.1 9, q, .inr (.inr (.inr (.inr (rfN q wE))))))], Ww, Po, [(lv0, .inl (G.2.1 9, 0, .inr (.inr (.inr (.inr (fun _ => none))))))]]) rfl (by decide) (by decide) ?_
                rintro _ _ ⟨P910, ⟨rfl, hW10⟩, rfl⟩
                refine V_eqi (y := nI S.2.1) (rfl) ?_
                refine V_isub hC dL_law_585 ?_
                refine V_eqi (y := nI (q - S.2.1)) (pk_sub hq) ?_
                refine V_sub [9, 0, 1, 2, 3, 4, 5, 6, 7, 8] (by decide) (u := [[(lv0, .inl (G.2.1 9, 0, .inr (.inr (.inr (.inr (fun _ => none))))))], P910, [(t, .inr (10, [.ref m, .ref (G.2.2 1), .int (nI e9), .ref bq, .ref lq, .ref wq]))], [(bq, .inl (G.2.1 9, 4, .inr (.inr (.inr (.inr (rfN 4 bE))))))], famW 4 (fun ι => iaP G (bE ι) 5 (bl ι)), [(lq, .inl (G.2.1 9, n, .inr (.inr (.inr (.inr (rfN n lE))))))], famW n (fun ι => iaP G (lE ι) 2 (lx ι)), [(wq, .inl (G.2.1 9, q, .inr (.inr (.inr (.inr (rfN q wE))))))], Ww, Po]) rfl ?_
                refine V_flat (ps' := [[(lv0, .inl (G.2.1 9, 0, .inr (.inr (.inr (.inr (rfN 0 (fun _ => 0 : Nat → Nat)))))))], P910, [(t, .inr (10, [.ref m, .ref (G.2.2 1), .int (nI e9), .ref bq, .ref lq, .ref wq]))], [(bq, .inl (G.2.1 9, 4, .inr (.inr (.inr (.inr (rfN 4 bE))))))], famW 4 (fun ι => iaP G (bE ι) 5 (bl ι)), [(lq, .inl (G.2.1 9, n, .inr (.inr (.inr (.inr (rfN n lE))))))], famW n (fun ι => iaP G (lE ι) 2 (lx ι)), [(wq, .inl (G.2.1 9, q, .inr (.inr (.inr (.inr (rfN q wE))))))], Ww, Po]) (by rw [rfN_0]) ?_
                refine V_istore hC dL_law_586 (L' := [(19, .int (nI (q - S.2.1))), (18, .ref lv0), (0, .ref (G.2.2 1)), (1, .int (nI time)), (2, .ref t), (3, .ref o), (4, .ref m), (5, .int (nI M)), (6, .int (nI k))]) (by decide) rfl ?_
                have loop11 : ∀ (fuel : Nat) (i lv : Nat) (vE : Nat → Nat) (hi : i ≤ S.2.1) (hvE : ∀ j, j < i → iaIn G Ww (vE j)) (_ : S.2.1 - i < fuel), V pP l eE room_1 sS mM aA bB tT cC QQ G AA 22 [[(t, .inr (10, [.ref m, .ref (G.2.2 1), .int (nI e9), .ref bq, .ref lq, .ref wq]))], [(bq, .inl (G.2.1 9, 4, .inr (.inr (.inr (.inr (rfN 4 bE))))))], famW 4 (fun ι => iaP G (bE ι) 5 (bl ι)), [(lq, .inl (G.2.1 9, n, .inr (.inr (.inr (.inr (rfN n lE))))))], famW n (fun ι => iaP G (lE ι) 2 (lx ι)), [(wq, .inl (G.2.1 9, q, .inr (.inr (.inr (.inr (rfN q wE))))))], Ww, P910, Po, [(lv, .inl (G.2.1 9, i, .inr (.inr (.inr (.inr (rfN i vE))))))]] (1100 * time + 500 + 60 * k + 46 + 1 + 1 * i) (9000 * time + 3000 + 600 * k + 400 + 21 * i) 588 [(0, .ref (G.2.2 1)), (1, .int (nI time)), (2, .ref t), (3, .ref o), (4, .ref m), (5, .int (nI M)), (6, .int (nI k)), (18, .ref lv), (19, .int (nI (q - S.2.1 + i)))] [] := by
                  intro fuel
                  induction fuel with
                  | zero => intro i lv vE hi hvE hm; exact absurd hm (Nat.not_lt_zero _)
                  | succ fuel ih =>
                    intro i lv vE hi hvE hm
                    have ihw := ih
                    refine V_iload hC dL_law_588 8 rfl ?_
                    refine V_aload_n hC dL_law_590 2 rfl ?_
                    refine V_get hC dL_law_591 inAX9 (mem_at 0 0 rfl rfl) rfl 5 (by decide) q729 rfl (v := .ref wq) rfl ?_
                    refine V_alen hC dL_law_594 9 rfl (mem_at 5 0 rfl rfl) (v := nI q) (rfl) ?_
                    refine V_icmp_ge hC dL_law_595 (tgt := 618) (by decide) (fun h12 => ?_) (fun h12 => ?_)
                    · have he : i = S.2.1 := by have := nle h12; omega
                      rw [he] at hvE
                      rw [he]
                      refine V_aload_n hC dL_law_618 2 rfl ?_
                      refine V_aload hC dL_law_619 7 rfl ?_
                      refine V_put hC dL_law_621 inAX9 tyX9 tyX9_ok nmX9 0 0 rfl rfl rfl 5 (by decide) q729 rfl rfl (rfl) (rfl) (Nat.le_of_ble_eq_true rfl) (ps' := [[(t, .inr (10, [.ref m, .ref (G.2.2 1), .int (nI e9), .ref bq, .ref lq, .ref lv]))], [(bq, .inl (G.2.1 9, 4, .inr (.inr (.inr (.inr (rfN 4 bE))))))], famW 4 (fun ι => iaP G (bE ι) 5 (bl ι)), [(lq, .inl (G.2.1 9, n, .inr (.inr (.inr (.inr (rfN n lE))))))], famW n (fun ι => iaP G (lE ι) 2 (lx ι)), [(wq, .inl (G.2.1 9, q, .inr (.inr (.inr (.inr (rfN q wE))))))], Ww, P910, Po, [(lv, .inl (G.2.1 9, S.2.1, .inr (.inr (.inr (.inr (rfN S.2.1 vE))))))]]) rfl ?_
                      refine V_iconst hC dL_law_624 (v := 0) (by decide) ?_
                      refine V_istore hC dL_law_625 (L' := [(19, .int 0), (0, .ref (G.2.2 1)), (1, .int (nI time)), (2, .ref t), (3, .ref o), (4, .ref m), (5, .int (nI M)), (6, .int (nI k)), (18, .ref lv)]) (by decide) rfl ?_
                      have loop13 : ∀ (fuel : Nat) (j : Nat) (Pm : va_W) (hj : j ≤ nl) (hWm : isW G m 4 bz n f g S nl lz Pm) (_ : nl - j < fuel), V pP l eE room_1 sS mM aA bB tT cC QQ G AA 22 [[(t, .inr (10, [.ref m, .ref (G.2.2 1), .int (nI e9), .ref bq, .ref lq, .ref lv]))], [(bq, .inl (G.2.1 9, 4, .inr (.inr (.inr (.inr (rfN 4 bE))))))], famW 4 (fun ι => iaP G (bE ι) 5 (bl ι)), [(lq, .inl (G.2.1 9, n, .inr (.inr (.inr (.inr (rfN n lE))))))], famW n (fun ι => iaP G (lE ι) 2 (lx ι)), [(lv, .inl (G.2.1 9, S.2.1, .inr (.inr (.inr (.inr (rfN S.2.1 vE))))))], Ww, Pm, Po] (1100 * time + 500 + 60 * k + 46 + 1 + 1 * S.2.1) (9000 * time + 3000 + 600 * k + 400 + 21 * S.2.1) 627 [(0, .ref (G.2.2 1)), (1, .int (nI time)), (2, .ref t), (3, .ref o), (4, .ref m), (5, .int (nI M)), (6, .int (nI k)), (19, .int (nI j))] [] := by
                        intro fuel
                        induction fuel with
                        | zero => intro j Pm hj hWm hm; exact absurd hm (Nat.not_lt_zero _)
                        | succ fuel ih =>
                          intro j Pm hj hWm hm
                          have ihj := ih
                          refine V_iload hC dL_law_627 7 rfl ?_
                          refine V_aload hC dL_law_629 4 rfl ?_
                          refine V_bipush hC dL_law_631 (v := 10) (by decide) ?_
                          obtain ⟨fshm14, hm14⟩ := isW_mem hWm
                          refine V_calli hC (V_runV hC (rest := [.int (nI j)]) [.int 10] (w_many l G m 4 bz n f g S nl lz Pm 10 hWm hok.1 (by decide)) [7] rfl (by decide) q587 q588 q589 q20 q590 ⟨by decide, by decide, rfl⟩ ⟨by decide, by decide⟩ (ci := 9) rfl (mem_pc 7 rfl hm14) rfl (Nat.le_of_ble_eq_true rfl) ⟨(by show 1100 * time + 500 + 60 * k + 46 + 1 + 1 * S.2.1 + 0 ≤ 853861; omega), (by show 9000 * time + 3000 + 600 * k + 400 + 21 * S.2.1 + 0 ≤ 6540115; omega)⟩ dL_law_633) (is := [7]) rfl [0, 1, 2, 3, 4, 5, 6, 8] (rs := [[(t, .inr (10, [.ref m, .ref (G.2.2 1), .int (nI e9), .ref bq, .ref lq, .ref lv]))], [(bq, .inl (G.2.1 9, 4, .inr (.inr (.inr (.inr (rfN 4 bE))))))], famW 4 (fun ι => iaP G (bE ι) 5 (bl ι)), [(lq, .inl (G.2.1 9, n, .inr (.inr (.inr (.inr (rfN n lE))))))], famW n (fun ι => iaP G (lE ι) 2 (lx ι)), [(lv, .inl (G.2.1 9, S.2.1, .inr (.inr (.inr (.inr (rfN S.2.1 vE))))))], Ww, Po]) rfl (by decide) (by decide) ?_
                          rintro _ _ ⟨P915, ⟨rfl, hW15⟩, rfl⟩
                          refine V_eqi (y := nI nl) (rfl) ?_
                          refine V_icmp_ge hC dL_law_636 (tgt := 705) (by decide) (fun h16 => ?_) (fun h16 => ?_)
                          · refine V_iinc hC dL_law_705 (v := nI (k + 1)) (L' := [(6, .int (nI (k + 1))), (0, .ref (G.2.2 1)), (1, .int (nI time)), (2, .ref t), (3, .ref o), (4, .ref m), (5, .int (nI M)), (19, .int (nI j))]) (j := 6) rfl (nI_1 _) (by decide) rfl ?_
                            refine V_goto hC dL_law_708 (tgt := 57) (by decide) ?_
                            refine V_loc (L' := [(0, .ref (G.2.2 1)), (1, .int (nI time)), (2, .ref t), (3, .ref o), (4, .ref m), (5, .int (nI M)), (6, .int (nI (k + 1)))]) [1, 2, 3, 4, 5, 6, 0] rfl ?_
                            refine V_sub [1, 2, 3, 4, 5, 6, 7, 0, 8] (by decide) (u := [[(t, .inr (10, [.ref m, .ref (G.2.2 1), .int (nI e9), .ref bq, .ref lq, .ref lv]))], [(bq, .inl (G.2.1 9, 4, .inr (.inr (.inr (.inr (rfN 4 bE))))))], famW 4 (fun ι => iaP G (bE ι) 5 (bl ι)), [(lq, .inl (G.2.1 9, n, .inr (.inr (.inr (.inr (rfN n lE))))))], famW n (fun ι => iaP G (lE ι) 2 (lx ι)), [(lv, .inl (G.2.1 9, S.2.1, .inr (.inr (.inr (.inr (rfN S.2.1 vE))))))], Ww, P915, Po]) rfl ?_
                            refine V_widen (show 1100 * time + 500 + 60 * k + 46 + 1 + 1 * S.2.1 ≤ 1100 * time + 500 + 60 * (k + 1) by omega) (show 9000 * time + 3000 + 600 * k + 400 + 21 * S.2.1 ≤ 9000 * time + 3000 + 600 * (k + 1) by omega) ?_
                            exact ihk (k + 1) _ _ _ _ _ _ _ _ _ _ _ _ _ _ _ _ _ _ _ _ _ _ (by omega) (by omega) hI hW15 hWo rfl hvE (by omega)
                          · have hlj : j < nl := nnle h16
                            refine V_iconst hC dL_law_639 (v := 0) (by decide) ?_
                            refine V_istore hC dL_law_640 (L' := [(20, .int 0), (0, .ref (G.2.2 1)), (1, .int (nI time)), (2, .ref t), (3, .ref o), (4, .ref m), (5, .int (nI M)), (6, .int (nI k)), (19, .int (nI j))]) (by decide) rfl ?_
                            refine V_iconst hC dL_law_642 (v := 0) (by decide) ?_
                            refine V_istore hC dL_law_643 (L' := [(21, .int 0), (20, .int 0), (0, .ref (G.2.2 1)), (1, .int (nI time)), (2, .ref t), (3, .ref o), (4, .ref m), (5, .int (nI M)), (6, .int (nI k)), (19, .int (nI j))]) (by decide) rfl ?_
                            have loop17 : ∀ (fuel : Nat) (b : Nat) (Pm : va_W) (hb4 : b ≤ 4) (hWm : isW G m 4 bz n f g S nl lz Pm) (_ : 4 - b < fuel), V pP l eE room_1 sS mM aA bB tT cC QQ G AA 22 [[(t, .inr (10, [.ref m, .ref (G.2.2 1), .int (nI e9), .ref bq, .ref lq, .ref lv]))], [(bq, .inl (G.2.1 9, 4, .inr (.inr (.inr (.inr (rfN 4 bE))))))], famW 4 (fun ι => iaP G (bE ι) 5 (bl ι)), [(lq, .inl (G.2.1 9, n, .inr (.inr (.inr (.inr (rfN n lE))))))], famW n (fun ι => iaP G (lE ι) 2 (lx ι)), [(lv, .inl (G.2.1 9, S.2.1, .inr (.inr (.inr (.inr (rfN S.2.1 vE))))))], Ww, Pm, Po] (1100 * time + 500 + 60 * k + 46 + 1 + 1 * S.2.1) (9000 * time + 3000 + 600 * k + 400 + 21 * S.2.1) 645 [(0, .ref (G.2.2 1)), (1, .int (nI time)), (2, .ref t), (3, .ref o), (4, .ref m), (5, .int (nI M)), (6, .int (nI k)), (19, .int (nI j)), (20, .int (lmS (L9 bz) (lz j).2.2.2.2 b)), (21, .int (nI b))] [] := by
                              intro fuel
                              induction fuel with
                              | zero => intro b Pm hb4 hWm hm; exact absurd hm (Nat.not_lt_zero _)
                              | succ fuel ih =>
                                intro b Pm hb4 hWm hm
                                have ihb := ih
                                refine V_iload hC dL_law_645 9 rfl ?_
                                refine V_iconst hC dL_law_647 (v := 4) (by decide) ?_
                                refine V_icmp_ge hC dL_law_648 (tgt := 684) (by decide) (fun h18 => ?_) (fun h18 => ?_)
                                · have he : b = 4 := by have := nle (a := 4) h18; omega
                                  rw [he]
                                  refine V_iload hC dL_law_684 8 rfl ?_
                                  refine V_aload hC dL_law_686 4 rfl ?_
                                  refine V_iload hC dL_law_688 7 rfl ?_
                                  refine V_iconst hC dL_law_690 (v := 0) (by decide) ?_
                                  obtain ⟨fshm19, hm19⟩ := isW_mem hWm
                                  refine V_calli hC (V_runV hC (rest := [.int (lmS (L9 bz) (lz j).2.2.2.2 4)]) [.int (nI j), .int 0] (w_ofLot l G m 4 bz n f g S nl lz Pm j 0 hWm hok.1 hlj (by decide)) [7] rfl (by decide) q538 q539 q540 q20 q541 ⟨by decide, by decide, rfl⟩ ⟨by decide, by decide⟩ (ci := 9) rfl (mem_pc 7 rfl hm19) rfl (Nat.le_of_ble_eq_true rfl) ⟨(by show 1100 * time + 500 + 60 * k + 46 + 1 + 1 * S.2.1 + 0 ≤ 853861; omega), (by show 9000 * time + 3000 + 600 * k + 400 + 21 * S.2.1 + 0 ≤ 6540115; omega)⟩ dL_law_691) (is := [7]) rfl [0, 1, 2, 3, 4, 5, 6, 8] (rs := [[(t, .inr (10, [.ref m, .ref (G.2.2 1), .int (nI e9), .ref bq, .ref lq, .ref lv]))], [(bq, .inl (G.2.1 9, 4, .inr (.inr (.inr (.inr (rfN 4 bE))))))], famW 4 (fun ι => iaP G (bE ι) 5 (bl ι)), [(lq, .inl (G.2.1 9, n, .inr (.inr (.inr (.inr (rfN n lE))))))], famW n (fun ι => iaP G (lE ι) 2 (lx ι)), [(lv, .inl (G.2.1 9, S.2.1, .inr (.inr (.inr (.inr (rfN S.2.1 vE))))))], Ww, Po]) rfl (by decide) (by decide) ?_
                                  rintro _ _ ⟨P920, ⟨rfl, hW20⟩, rfl⟩
                                  refine V_eqi (y := (lz j).2.2.2.1 0) (rfl) ?_
                                  refine V_icmp_eqT hC dL_law_694 (tgt := 699) (by decide) (lw_lime hI hlj) ?_
                                  refine V_iinc hC dL_law_699 (v := nI (j + 1)) (L' := [(19, .int (nI (j + 1))), (0, .ref (G.2.2 1)), (1, .int (nI time)), (2, .ref t), (3, .ref o), (4, .ref m), (5, .int (nI M)), (6, .int (nI k)), (20, .int (lmS (L9 bz) (lz j).2.2.2.2 4)), (21, .int (nI 4))]) (j := 7) rfl (nI_1 _) (by decide) rfl ?_
                                  refine V_goto hC dL_law_702 (tgt := 627) (by decide) ?_
                                  refine V_loc (L' := [(0, .ref (G.2.2 1)), (1, .int (nI time)), (2, .ref t), (3, .ref o), (4, .ref m), (5, .int (nI M)), (6, .int (nI k)), (19, .int (nI (j + 1)))]) [1, 2, 3, 4, 5, 6, 7, 0] rfl ?_
                                  refine V_sub [1, 2, 3, 4, 5, 6, 7, 0, 8] (by decide) (u := [[(t, .inr (10, [.ref m, .ref (G.2.2 1), .int (nI e9), .ref bq, .ref lq, .ref lv]))], [(bq, .inl (G.2.1 9, 4, .inr (.inr (.inr (.inr (rfN 4 bE))))))], famW 4 (fun ι => iaP G (bE ι) 5 (bl ι)), [(lq, .inl (G.2.1 9, n, .inr (.inr (.inr (.inr (rfN n lE))))))], famW n (fun ι => iaP G (lE ι) 2 (lx ι)), [(lv, .inl (G.2.1 9, S.2.1, .inr (.inr (.inr (.inr (rfN S.2.1 vE))))))], Ww, P920, Po]) rfl ?_
                                  exact ihj (j + 1) _ (by omega) hW20 (by omega)
                                · have hlb : b < 4 := nnle (a := 4) h18
                                  refine V_iload hC dL_law_651 8 rfl ?_
                                  refine V_aload hC dL_law_653 4 rfl ?_
                                  refine V_iload hC dL_law_655 7 rfl ?_
                                  refine V_bipush hC dL_law_657 (v := 16) (by decide) ?_
                                  refine V_iload hC dL_law_659 9 rfl ?_
                                  refine V_iadd hC dL_law_661 ?_
                                  refine V_eqi (y := nI (b + 16)) ((nI_add 16 b).trans (congrArg nI (Nat.add_comm 16 b))) ?_
                                  obtain ⟨fshm21, hm21⟩ := isW_mem hWm
                                  refine V_calli hC (V_runV hC (rest := [.int (lmS (L9 bz) (lz j).2.2.2.2 b)]) [.int (nI j), .int (nI (b + 16))] (w_ofLot l G m 4 bz n f g S nl lz Pm j (b + 16) hWm hok.1 hlj (by omega)) [7] rfl (by decide) q538 q539 q540 q20 q541 ⟨by decide, by decide, rfl⟩ ⟨by decide, by decide⟩ (ci := 9) rfl (mem_pc 7 rfl hm21) rfl (Nat.le_of_ble_eq_true rfl) ⟨(by show 1100 * time + 500 + 60 * k + 46 + 1 + 1 * S.2.1 + 0 ≤ 853861; omega), (by show 9000 * time + 3000 + 600 * k + 400 + 21 * S.2.1 + 0 ≤ 6540115; omega)⟩ dL_law_662) (is := [7]) rfl [0, 1, 2, 3, 4, 5, 6, 8] (rs := [[(t, .inr (10, [.ref m, .ref (G.2.2 1), .int (nI e9), .ref bq, .ref lq, .ref lv]))], [(bq, .inl (G.2.1 9, 4, .inr (.inr (.inr (.inr (rfN 4 bE))))))], famW 4 (fun ι => iaP G (bE ι) 5 (bl ι)), [(lq, .inl (G.2.1 9, n, .inr (.inr (.inr (.inr (rfN n lE))))))], famW n (fun ι => iaP G (lE ι) 2 (lx ι)), [(lv, .inl (G.2.1 9, S.2.1, .inr (.inr (.inr (.inr (rfN S.2.1 vE))))))], Ww, Po]) rfl (by decide) (by decide) ?_
                                  rintro _ _ ⟨P922, ⟨rfl, hW22⟩, rfl⟩
                                  refine V_eqi (y := (lz j).2.2.2.2 b) (rfl) ?_
                                  refine V_aload_n hC dL_law_665 2 rfl ?_
                                  refine V_get hC dL_law_666 inAX9 (mem_at 1 0 rfl rfl) rfl 3 (by decide) q725 rfl (v := .ref bq) rfl ?_
                                  refine V_iload hC dL_law_669 9 rfl ?_
                                  refine V_aaldI hC dL_law_671 (mem_at 2 0 rfl rfl) (vp_in_nI (by omega) (by omega)) (x := b) (nI_clamp (by omega)) (b := bE b) (rfN_at (hlb)) ?_
                                  refine V_iconst hC dL_law_672 (v := 1) (by decide) ?_
                                  refine V_iald hC dL_law_673 (mem_fam 3 0 rfl b (hlb) rfl) (vin (by decide)) (x := 1) (by decide) ?_
                                  refine V_eqi (y := L9 bz b) ((hI.2.1.2.1 b hlb 0 (by decide)).1) ?_
                                  refine V_imul hC dL_law_674 ?_
                                  refine V_iadd hC dL_law_675 ?_
                                  refine V_eqi (y := lmS (L9 bz) (lz j).2.2.2.2 (b + 1)) (rfl) ?_
                                  refine V_istore hC dL_law_676 (L' := [(20, .int (lmS (L9 bz) (lz j).2.2.2.2 (b + 1))), (0, .ref (G.2.2 1)), (1, .int (nI time)), (2, .ref t), (3, .ref o), (4, .ref m), (5, .int (nI M)), (6, .int (nI k)), (19, .int (nI j)), (21, .int (nI b))]) (by decide) rfl ?_
                                  refine V_iinc hC dL_law_678 (v := nI (b + 1)) (L' := [(21, .int (nI (b + 1))), (20, .int (lmS (L9 bz) (lz j).2.2.2.2 (b + 1))), (0, .ref (G.2.2 1)), (1, .int (nI time)), (2, .ref t), (3, .ref o), (4, .ref m), (5, .int (nI M)), (6, .int (nI k)), (19, .int (nI j))]) (j := 9) rfl (nI_1 _) (by decide) rfl ?_
                                  refine V_goto hC dL_law_681 (tgt := 645) (by decide) ?_
                                  refine V_loc (L' := [(0, .ref (G.2.2 1)), (1, .int (nI time)), (2, .ref t), (3, .ref o), (4, .ref m), (5, .int (nI M)), (6, .int (nI k)), (19, .int (nI j)), (20, .int (lmS (L9 bz) (lz j).2.2.2.2 (b + 1))), (21, .int (nI (b + 1)))]) [2, 3, 4, 5, 6, 7, 8, 9, 1, 0] rfl ?_
                                  refine V_sub [1, 2, 3, 4, 5, 6, 7, 0, 8] (by decide) (u := [[(t, .inr (10, [.ref m, .ref (G.2.2 1), .int (nI e9), .ref bq, .ref lq, .ref lv]))], [(bq, .inl (G.2.1 9, 4, .inr (.inr (.inr (.inr (rfN 4 bE))))))], famW 4 (fun ι => iaP G (bE ι) 5 (bl ι)), [(lq, .inl (G.2.1 9, n, .inr (.inr (.inr (.inr (rfN n lE))))))], famW n (fun ι => iaP G (lE ι) 2 (lx ι)), [(lv, .inl (G.2.1 9, S.2.1, .inr (.inr (.inr (.inr (rfN S.2.1 vE))))))], Ww, P922, Po]) rfl ?_
                                  exact ihb (b + 1) _ (by omega) hW22 (by omega)
                            refine V_loc (L' := [(0, .ref (G.2.2 1)), (1, .int (nI time)), (2, .ref t), (3, .ref o), (4, .ref m), (5, .int (nI M)), (6, .int (nI k)), (19, .int (nI j)), (20, .int 0), (21, .int 0)]) [2, 3, 4, 5, 6, 7, 8, 9, 1, 0] rfl ?_
                            refine V_sub [1, 2, 3, 4, 5, 6, 7, 0, 8] (by decide) (u := [[(t, .inr (10, [.ref m, .ref (G.2.2 1), .int (nI e9), .ref bq, .ref lq, .ref lv]))], [(bq, .inl (G.2.1 9, 4, .inr (.inr (.inr (.inr (rfN 4 bE))))))], famW 4 (fun ι => iaP G (bE ι) 5 (bl ι)), [(lq, .inl (G.2.1 9, n, .inr (.inr (.inr (.inr (rfN n lE))))))], famW n (fun ι => iaP G (lE ι) 2 (lx ι)), [(lv, .inl (G.2.1 9, S.2.1, .inr (.inr (.inr (.inr (rfN S.2.1 vE))))))], Ww, P915, Po]) rfl ?_
                            exact loop17 (4 + 1) 0 P915 (Nat.zero_le _) hW15 (by omega)
                      refine V_loc (L' := [(0, .ref (G.2.2 1)), (1, .int (nI time)), (2, .ref t), (3, .ref o), (4, .ref m), (5, .int (nI M)), (6, .int (nI k)), (19, .int 0)]) [1, 2, 3, 4, 5, 6, 7, 0] rfl ?_
                      refine V_sub [0, 1, 2, 3, 4, 9, 6, 7, 8] (by decide) (u := [[(t, .inr (10, [.ref m, .ref (G.2.2 1), .int (nI e9), .ref bq, .ref lq, .ref lv]))], [(bq, .inl (G.2.1 9, 4, .inr (.inr (.inr (.inr (rfN 4 bE))))))], famW 4 (fun ι => iaP G (bE ι) 5 (bl ι)), [(lq, .inl (G.2.1 9, n, .inr (.inr (.inr (.inr (rfN n lE))))))], famW n (fun ι => iaP G (lE ι) 2 (lx ι)), [(lv, .inl (G.2.1 9, S.2.1, .inr (.inr (.inr (.inr (rfN S.2.1 vE))))))], Ww, P910, Po]) rfl ?_
                      exact loop13 (nl + 1) 0 P910 (Nat.zero_le _) hW10 (by omega)
                    · have hli : i < S.2.1 := by have := nnle h12; omega
                      refine V_aload hC dL_law_598 7 rfl ?_
                      refine V_aload_n hC dL_law_600 2 rfl ?_
                      refine V_get hC dL_law_601 inAX9 (mem_at 0 0 rfl rfl) rfl 5 (by decide) q729 rfl (v := .ref wq) rfl ?_
                      refine V_iload hC dL_law_604 8 rfl ?_
                      refine V_aaldI hC dL_law_606 (mem_at 5 0 rfl rfl) (vp_in_nI (by omega) (by omega)) (x := q - S.2.1 + i) (nI_clamp (by omega)) (b := wE (q - S.2.1 + i)) (rfN_at (by omega)) ?_
                      refine V_callr hC (V_runS hC (rest := []) [.ref lv, .ref (wE (q - S.2.1 + i))] (Mr_sz (c_X9_plus l G lv (wE (q - S.2.1 + i)) i vE Ww (by omega) hvE (hwA _ (by omega)))) [9, 6] rfl (by decide) q755 q756 q19 q757 ⟨by decide, by decide, rfl⟩ ⟨by decide, by decide⟩ rfl (Nat.le_of_ble_eq_true rfl) ⟨(by show 1100 * time + 500 + 60 * k + 46 + 1 + 1 * i + 1 ≤ 853861; omega), (by show 9000 * time + 3000 + 600 * k + 400 + 21 * i + 21 ≤ 6540115; omega)⟩ dL_law_607) (is := [9, 6]) rfl [0, 1, 2, 3, 4, 5, 7, 8] (rs := [[(t, .inr (10, [.ref m, .ref (G.2.2 1), .int (nI e9), .ref bq, .ref lq, .ref wq]))], [(bq, .inl (G.2.1 9, 4, .inr (.inr (.inr (.inr (rfN 4 bE))))))], famW 4 (fun ι => iaP G (bE ι) 5 (bl ι)), [(lq, .inl (G.2.1 9, n, .inr (.inr (.inr (.inr (rfN n lE))))))], famW n (fun ι => iaP G (lE ι) 2 (lx ι)), [(wq, .inl (G.2.1 9, q, .inr (.inr (.inr (.inr (rfN q wE))))))], P910, Po]) rfl (by decide) (by decide) ?_
                      rintro _ _ ⟨q23, rfl, rfl⟩
                      refine V_astore hC dL_law_610 (L' := [(18, .ref q23), (0, .ref (G.2.2 1)), (1, .int (nI time)), (2, .ref t), (3, .ref o), (4, .ref m), (5, .int (nI M)), (6, .int (nI k)), (19, .int (nI (q - S.2.1 + i)))]) (by decide) rfl ?_
                      refine V_iinc hC dL_law_612 (v := nI (q - S.2.1 + (i + 1))) (L' := [(19, .int (nI (q - S.2.1 + (i + 1)))), (18, .ref q23), (0, .ref (G.2.2 1)), (1, .int (nI time)), (2, .ref t), (3, .ref o), (4, .ref m), (5, .int (nI M)), (6, .int (nI k))]) (j := 8) rfl (nI_1 _) (by decide) rfl ?_
                      refine V_goto hC dL_law_615 (tgt := 588) (by decide) ?_
                      refine V_loc (L' := [(0, .ref (G.2.2 1)), (1, .int (nI time)), (2, .ref t), (3, .ref o), (4, .ref m), (5, .int (nI M)), (6, .int (nI k)), (18, .ref q23), (19, .int (nI (q - S.2.1 + (i + 1))))]) [2, 3, 4, 5, 6, 7, 8, 1, 0] rfl ?_
                      refine V_sub [2, 3, 4, 5, 6, 7, 1, 8, 9, 0] (by decide) (u := [[(t, .inr (10, [.ref m, .ref (G.2.2 1), .int (nI e9), .ref bq, .ref lq, .ref wq]))], [(bq, .inl (G.2.1 9, 4, .inr (.inr (.inr (.inr (rfN 4 bE))))))], famW 4 (fun ι => iaP G (bE ι) 5 (bl ι)), [(lq, .inl (G.2.1 9, n, .inr (.inr (.inr (.inr (rfN n lE))))))], famW n (fun ι => iaP G (lE ι) 2 (lx ι)), [(wq, .inl (G.2.1 9, q, .inr (.inr (.inr (.inr (rfN q wE))))))], Ww, P910, Po, [(q23, .inl (G.2.1 9, i + 1, .inr (.inr (.inr (.inr (rfN (i + 1) (va_up vE i (wE (q - S.2.1 + i)))))))))]]) rfl ?_
                      refine V_widen (show 1100 * time + 500 + 60 * k + 46 + 1 + 1 * i + 1 ≤ 1100 * time + 500 + 60 * k + 46 + 1 + 1 * (i + 1) by omega) (show 9000 * time + 3000 + 600 * k + 400 + 21 * i + 21 ≤ 9000 * time + 3000 + 600 * k + 400 + 21 * (i + 1) by omega) ?_
                      exact ihw (i + 1) _ _ (by omega) (fun j hj => if e : j = i then by rw [e, va_up_eq]; exact hwA _ (by omega) else by rw [va_up_ne _ _ e]; exact hvE j (by omega)) (by omega)
                refine V_loc (L' := [(0, .ref (G.2.2 1)), (1, .int (nI time)), (2, .ref t), (3, .ref o), (4, .ref m), (5, .int (nI M)), (6, .int (nI k)), (18, .ref lv0), (19, .int (nI (q - S.2.1)))]) [2, 3, 4, 5, 6, 7, 8, 1, 0] rfl ?_
                refine V_sub [2, 3, 4, 5, 6, 7, 8, 1, 9, 0] (by decide) (u := [[(t, .inr (10, [.ref m, .ref (G.2.2 1), .int (nI e9), .ref bq, .ref lq, .ref wq]))], [(bq, .inl (G.2.1 9, 4, .inr (.inr (.inr (.inr (rfN 4 bE))))))], famW 4 (fun ι => iaP G (bE ι) 5 (bl ι)), [(lq, .inl (G.2.1 9, n, .inr (.inr (.inr (.inr (rfN n lE))))))], famW n (fun ι => iaP G (lE ι) 2 (lx ι)), [(wq, .inl (G.2.1 9, q, .inr (.inr (.inr (.inr (rfN q wE))))))], Ww, P910, Po, [(lv0, .inl (G.2.1 9, 0, .inr (.inr (.inr (.inr (rfN 0 (fun _ => 0 : Nat → Nat)))))))]]) rfl ?_
                exact loop11 (S.2.1 + 1) 0 lv0 (fun _ => 0 : Nat → Nat) (Nat.zero_le _) (fun j hj => absurd hj (Nat.not_lt_zero j)) (by omega)
              have J338 : ∀ (e9 n q lq wq M : Nat) (lE wE : Nat → Nat) (lx : Nat → Nat → Int32) (f g f1 g1 : Nat → Int32) (p : Nat → Nat) (S S1 : KS) (nl : Nat) (lz lz1 : Nat → LV) (Ww Pm Po : va_W) (fl : Nat) (hd : e9 ≤ 66 + 9 * k + 7) (hI : lwI bz bz1 bl n f g f1 g1 p lx S S1 nl lz lz1 M) (hWm : isW G m 4 bz n f g S nl lz Pm) (hWo : isW G o 4 bz1 n f1 g1 S1 nl lz1 Po) (hq : q = S.2.1) (hwA : ∀ i, i < q → iaIn G Ww (wE i)) (hfl : fl ≤ 9), V pP l eE room_1 sS mM aA bB tT cC QQ G AA 22 [[(t, .inr (10, [.ref m, .ref (G.2.2 1), .int (nI e9), .ref bq, .ref lq, .ref wq]))], [(bq, .inl (G.2.1 9, 4, .inr (.inr (.inr (.inr (rfN 4 bE))))))], famW 4 (fun ι => iaP G (bE ι) 5 (bl ι)), [(lq, .inl (G.2.1 9, n, .inr (.inr (.inr (.inr (rfN n lE))))))], famW n (fun ι => iaP G (lE ι) 2 (lx ι)), [(wq, .inl (G.2.1 9, q, .inr (.inr (.inr (.inr (rfN q wE))))))], Ww, Pm, Po] (1100 * time + 500 + 60 * k + 38) (9000 * time + 3000 + 600 * k + 352) 338 [(0, .ref (G.2.2 1)), (1, .int (nI time)), (2, .ref t), (3, .ref o), (4, .ref m), (5, .int (nI M)), (6, .int (nI k)), (8, .int (nI fl))] [] := by
                intro e9 n q lq wq M lE wE lx f g f1 g1 p S S1 nl lz lz1 Ww Pm Po fl hd hI hWm hWo hq hwA hfl
                have hok := lw_ok hI
                have hS3 : S.2.1 ≤ 3 := hI.2.2.1.2.1.1
                have hkE : kEq S S1 := hI.2.2.1.1
                have hM12 : nl + (cnt5 S.2.2.1 + S.2.1) = M ∧ M ≤ 12 := hI.2.2.2.2.2.2
                refine V_iconst hC dL_law_338 (v := 1) (by decide) ?_
                refine V_aload_n hC dL_law_339 2 rfl ?_
                refine V_iconst hC dL_law_340 (v := 5) (by decide) ?_
                refine V_calli hC (V_runV hC (rest := [.int 1]) [.int 5] (c_X9_draw l G t m bq lq wq e9 5 (by decide) (by decide) (by omega)) [0] rfl (by decide) q743 q744 q745 q19 q746 ⟨by decide, by decide, rfl⟩ ⟨by decide, by decide⟩ (ci := 10) rfl (mem_at 0 0 rfl rfl) rfl (Nat.le_of_ble_eq_true rfl) ⟨(by show 1100 * time + 500 + 60 * k + 38 + 0 ≤ 853861; omega), (by show 9000 * time + 3000 + 600 * k + 352 + 0 ≤ 6540115; omega)⟩ dL_law_341) (is := [0]) rfl [1, 2, 3, 4, 5, 6, 7, 8] (rs := [[(bq, .inl (G.2.1 9, 4, .inr (.inr (.inr (.inr (rfN 4 bE))))))], famW 4 (fun ι => iaP G (bE ι) 5 (bl ι)), [(lq, .inl (G.2.1 9, n, .inr (.inr (.inr (.inr (rfN n lE))))))], famW n (fun ι => iaP G (lE ι) 2 (lx ι)), [(wq, .inl (G.2.1 9, q, .inr (.inr (.inr (.inr (rfN q wE))))))], Ww, Pm, Po]) rfl (by decide) (by decide) ?_
                rintro _ _ ⟨k24, hk24, rfl, rfl⟩
                refine V_iadd hC dL_law_344 ?_
                refine V_eqi (y := nI (1 + k24)) (nI_add 1 k24) ?_
                obtain ⟨w, hw1, hw5, hwe⟩ : ∃ w : Nat, 1 ≤ w ∧ w ≤ 5 ∧ 1 + k24 = w := ⟨1 + k24, by omega, by omega, rfl⟩
                refine V_eqi (y := nI w) (by rw [hwe]) ?_
                refine V_istore hC dL_law_345 (L' := [(10, .int (nI w)), (0, .ref (G.2.2 1)), (1, .int (nI time)), (2, .ref t), (3, .ref o), (4, .ref m), (5, .int (nI M)), (6, .int (nI k)), (8, .int (nI fl))]) (by decide) rfl ?_
                refine V_aload hC dL_law_347 5 rfl ?_
                obtain ⟨fshm25, hm25⟩ := isW_mem hWm
                refine V_calll hC (V_runV hC (rest := []) [] (w_digest l G m 4 bz n f g S nl lz Pm hWm hok.1 ) [7] rfl (by decide) q622 q623 q624 q20 q625 ⟨by decide, by decide, rfl⟩ ⟨by decide, by decide⟩ (ci := 9) rfl (mem_pc 7 rfl hm25) rfl (Nat.le_of_ble_eq_true rfl) ⟨(by show 1100 * time + 500 + 60 * k + 38 + 0 ≤ 853861; omega), (by show 9000 * time + 3000 + 600 * k + 352 + 0 ≤ 6540115; omega)⟩ dL_law_349) (is := [7]) rfl [0, 1, 2, 3, 4, 5, 6, 8] (rs := [[(t, .inr (10, [.ref m, .ref (G.2.2 1), .int (nI (e9 + 1)), .ref bq, .ref lq, .ref wq]))], [(bq, .inl (G.2.1 9, 4, .inr (.inr (.inr (.inr (rfN 4 bE))))))], famW 4 (fun ι => iaP G (bE ι) 5 (bl ι)), [(lq, .inl (G.2.1 9, n, .inr (.inr (.inr (.inr (rfN n lE))))))], famW n (fun ι => iaP G (lE ι) 2 (lx ι)), [(wq, .inl (G.2.1 9, q, .inr (.inr (.inr (.inr (rfN q wE))))))], Ww, Po]) rfl (by decide) (by decide) ?_
                rintro dg1 _ ⟨P926, ⟨hd26, hW26⟩, rfl⟩
                refine V_lstore hC dL_law_352 (L' := [(11, .long dg1), (10, .int (nI w)), (0, .ref (G.2.2 1)), (1, .int (nI time)), (2, .ref t), (3, .ref o), (4, .ref m), (5, .int (nI M)), (6, .int (nI k)), (8, .int (nI fl))]) (by decide) rfl ?_
                refine V_aload hC dL_law_354 6 rfl ?_
                refine V_iload hC dL_law_356 1 rfl ?_
                refine V_iload hC dL_law_358 9 rfl ?_
                obtain ⟨fshm27, hm27⟩ := isW_mem hW26
                refine V_calli hC (V_runV hC (rest := []) [.int (nI w), .int (nI fl)] (w_freeAfter l G m 4 bz n f g S nl lz P926 w (nI fl) hW26 hok.1 (by omega) (by omega) (inR_nI (M := 9) hfl)) [0] rfl (by decide) q605 q606 q607 q20 q608 ⟨by decide, by decide, rfl⟩ ⟨by decide, by decide⟩ (ci := 9) rfl (mem_pc 0 rfl hm27) rfl (Nat.le_of_ble_eq_true rfl) ⟨(by show 1100 * time + 500 + 60 * k + 38 + 0 ≤ 853861; omega), (by show 9000 * time + 3000 + 600 * k + 352 + 0 ≤ 6540115; omega)⟩ dL_law_360) (is := [0]) rfl [1, 2, 3, 4, 5, 6, 7, 8] (rs := [[(t, .inr (10, [.ref m, .ref (G.2.2 1), .int (nI (e9 + 1)), .ref bq, .ref lq, .ref wq]))], [(bq, .inl (G.2.1 9, 4, .inr (.inr (.inr (.inr (rfN 4 bE))))))], famW 4 (fun ι => iaP G (bE ι) 5 (bl ι)), [(lq, .inl (G.2.1 9, n, .inr (.inr (.inr (.inr (rfN n lE))))))], famW n (fun ι => iaP G (lE ι) 2 (lx ι)), [(wq, .inl (G.2.1 9, q, .inr (.inr (.inr (.inr (rfN q wE))))))], Ww, Po]) rfl (by decide) (by decide) ?_
                rintro _ _ ⟨P928, ⟨St928, rfl, hW28⟩, rfl⟩
                refine V_eqi (y := faI (setF (nI fl) S) w) (faI_c (trS_e hS3) w) ?_
                refine V_istore hC dL_law_363 (L' := [(13, .int (faI (setF (nI fl) S) w)), (11, .long dg1), (10, .int (nI w)), (0, .ref (G.2.2 1)), (1, .int (nI time)), (2, .ref t), (3, .ref o), (4, .ref m), (5, .int (nI M)), (6, .int (nI k)), (8, .int (nI fl))]) (by decide) rfl ?_
                refine V_aload hC dL_law_365 7 rfl ?_
                refine V_iload hC dL_law_367 2 rfl ?_
                obtain ⟨fshm29, hm29⟩ := isW_mem hW28
                refine V_calli hC (V_runV hC (rest := []) [.int (nI w)] (w_letFall l G m 4 bz n f g S nl lz P928 w hW28 hok.1 (by omega) (by omega)) [0] rfl (by decide) q614 q615 q616 q20 q617 ⟨by decide, by decide, rfl⟩ ⟨by decide, by decide⟩ (ci := 9) rfl (mem_pc 0 rfl hm29) rfl (Nat.le_of_ble_eq_true rfl) ⟨(by show 1100 * time + 500 + 60 * k + 38 + 0 ≤ 853861; omega), (by show 9000 * time + 3000 + 600 * k + 352 + 0 ≤ 6540115; omega)⟩ dL_law_369) (is := [0]) rfl [1, 2, 3, 4, 5, 6, 7, 8] (rs := [[(t, .inr (10, [.ref m, .ref (G.2.2 1), .int (nI (e9 + 1)), .ref bq, .ref lq, .ref wq]))], [(bq, .inl (G.2.1 9, 4, .inr (.inr (.inr (.inr (rfN 4 bE))))))], famW 4 (fun ι => iaP G (bE ι) 5 (bl ι)), [(lq, .inl (G.2.1 9, n, .inr (.inr (.inr (.inr (rfN n lE))))))], famW n (fun ι => iaP G (lE ι) 2 (lx ι)), [(wq, .inl (G.2.1 9, q, .inr (.inr (.inr (.inr (rfN q wE))))))], Ww, Po]) rfl (by decide) (by decide) ?_
                rintro lf _ ⟨P930, ⟨hl30, hW30⟩, rfl⟩
                refine V_istore hC dL_law_372 (L' := [(14, .int lf), (13, .int (faI (setF (nI fl) S) w)), (11, .long dg1), (10, .int (nI w)), (0, .ref (G.2.2 1)), (1, .int (nI time)), (2, .ref t), (3, .ref o), (4, .ref m), (5, .int (nI M)), (6, .int (nI k)), (8, .int (nI fl))]) (by decide) rfl ?_
                refine V_aload hC dL_law_374 8 rfl ?_
                obtain ⟨fshm31, hm31⟩ := isW_mem hW30
                refine V_calll hC (V_runV hC (rest := []) [] (w_digest l G m 4 bz n f g S nl lz P930 hW30 hok.1 ) [0] rfl (by decide) q622 q623 q624 q20 q625 ⟨by decide, by decide, rfl⟩ ⟨by decide, by decide⟩ (ci := 9) rfl (mem_pc 0 rfl hm31) rfl (Nat.le_of_ble_eq_true rfl) ⟨(by show 1100 * time + 500 + 60 * k + 38 + 0 ≤ 853861; omega), (by show 9000 * time + 3000 + 600 * k + 352 + 0 ≤ 6540115; omega)⟩ dL_law_376) (is := [0]) rfl [1, 2, 3, 4, 5, 6, 7, 8] (rs := [[(t, .inr (10, [.ref m, .ref (G.2.2 1), .int (nI (e9 + 1)), .ref bq, .ref lq, .ref wq]))], [(bq, .inl (G.2.1 9, 4, .inr (.inr (.inr (.inr (rfN 4 bE))))))], famW 4 (fun ι => iaP G (bE ι) 5 (bl ι)), [(lq, .inl (G.2.1 9, n, .inr (.inr (.inr (.inr (rfN n lE))))))], famW n (fun ι => iaP G (lE ι) 2 (lx ι)), [(wq, .inl (G.2.1 9, q, .inr (.inr (.inr (.inr (rfN q wE))))))], Ww, Po]) rfl (by decide) (by decide) ?_
                rintro dg2 _ ⟨P932, ⟨hd32, hW32⟩, rfl⟩
                refine V_lload hC dL_law_379 2 rfl ?_
                refine V_lcmp hC dL_law_381 ?_
                refine V_eqi (y := 0) (lg_0 (lw_dig0 hI hd26 hd32)) ?_
                refine V_if_neF hC dL_law_382 (tgt := 395) (by decide) (by decide) ?_
                refine V_aload_n hC dL_law_385 7 rfl ?_
                obtain ⟨fshm33, hm33⟩ := isW_mem hWo
                refine V_calll hC (V_runV hC (rest := []) [] (w_digest l G o 4 bz1 n f1 g1 S1 nl lz1 Po hWo hok.2 ) [8] rfl (by decide) q622 q623 q624 q20 q625 ⟨by decide, by decide, rfl⟩ ⟨by decide, by decide⟩ (ci := 9) rfl (mem_pc 8 rfl hm33) rfl (Nat.le_of_ble_eq_true rfl) ⟨(by show 1100 * time + 500 + 60 * k + 38 + 0 ≤ 853861; omega), (by show 9000 * time + 3000 + 600 * k + 352 + 0 ≤ 6540115; omega)⟩ dL_law_386) (is := [8]) rfl [0, 1, 2, 3, 4, 5, 6, 7] (rs := [P932, [(t, .inr (10, [.ref m, .ref (G.2.2 1), .int (nI (e9 + 1)), .ref bq, .ref lq, .ref wq]))], [(bq, .inl (G.2.1 9, 4, .inr (.inr (.inr (.inr (rfN 4 bE))))))], famW 4 (fun ι => iaP G (bE ι) 5 (bl ι)), [(lq, .inl (G.2.1 9, n, .inr (.inr (.inr (.inr (rfN n lE))))))], famW n (fun ι => iaP G (lE ι) 2 (lx ι)), [(wq, .inl (G.2.1 9, q, .inr (.inr (.inr (.inr (rfN q wE))))))], Ww]) rfl (by decide) (by decide) ?_
                rintro dg3 _ ⟨P934, ⟨hd34, hW34⟩, rfl⟩
                refine V_lload hC dL_law_389 2 rfl ?_
                refine V_lcmp hC dL_law_391 ?_
                refine V_eqi (y := 0) (lg_0 (lw_dig hI hd26 hd34)) ?_
                refine V_if_eqT hC dL_law_392 (tgt := 397) (by decide) (by decide) ?_
                refine V_aload hC dL_law_397 8 rfl ?_
                refine V_bipush hC dL_law_399 (v := 8) (by decide) ?_
                obtain ⟨fshm35, hm35⟩ := isW_mem hW32
                refine V_calli hC (V_runV hC (rest := []) [.int 8] (w_many l G m 4 bz n f g S nl lz P932 8 hW32 hok.1 (by decide)) [1] rfl (by decide) q587 q588 q589 q20 q590 ⟨by decide, by decide, rfl⟩ ⟨by decide, by decide⟩ (ci := 9) rfl (mem_pc 1 rfl hm35) rfl (Nat.le_of_ble_eq_true rfl) ⟨(by show 1100 * time + 500 + 60 * k + 38 + 0 ≤ 853861; omega), (by show 9000 * time + 3000 + 600 * k + 352 + 0 ≤ 6540115; omega)⟩ dL_law_401) (is := [1]) rfl [0, 2, 3, 4, 5, 6, 7, 8] (rs := [P934, [(t, .inr (10, [.ref m, .ref (G.2.2 1), .int (nI (e9 + 1)), .ref bq, .ref lq, .ref wq]))], [(bq, .inl (G.2.1 9, 4, .inr (.inr (.inr (.inr (rfN 4 bE))))))], famW 4 (fun ι => iaP G (bE ι) 5 (bl ι)), [(lq, .inl (G.2.1 9, n, .inr (.inr (.inr (.inr (rfN n lE))))))], famW n (fun ι => iaP G (lE ι) 2 (lx ι)), [(wq, .inl (G.2.1 9, q, .inr (.inr (.inr (.inr (rfN q wE))))))], Ww]) rfl (by decide) (by decide) ?_
                rintro _ _ ⟨P936, ⟨rfl, hW36⟩, rfl⟩
                refine V_eqi (y := S.1 4) (rfl) ?_
                refine V_istore hC dL_law_404 (L' := [(15, .int (S.1 4)), (14, .int lf), (13, .int (faI (setF (nI fl) S) w)), (11, .long dg1), (10, .int (nI w)), (0, .ref (G.2.2 1)), (1, .int (nI time)), (2, .ref t), (3, .ref o), (4, .ref m), (5, .int (nI M)), (6, .int (nI k)), (8, .int (nI fl))]) (by decide) rfl ?_
                refine V_aload hC dL_law_406 9 rfl ?_
                refine V_bipush hC dL_law_408 (v := 7) (by decide) ?_
                obtain ⟨fshm37, hm37⟩ := isW_mem hW36
                refine V_calli hC (V_runV hC (rest := []) [.int 7] (w_many l G m 4 bz n f g S nl lz P936 7 hW36 hok.1 (by decide)) [0] rfl (by decide) q587 q588 q589 q20 q590 ⟨by decide, by decide, rfl⟩ ⟨by decide, by decide⟩ (ci := 9) rfl (mem_pc 0 rfl hm37) rfl (Nat.le_of_ble_eq_true rfl) ⟨(by show 1100 * time + 500 + 60 * k + 38 + 0 ≤ 853861; omega), (by show 9000 * time + 3000 + 600 * k + 352 + 0 ≤ 6540115; omega)⟩ dL_law_410) (is := [0]) rfl [1, 2, 3, 4, 5, 6, 7, 8] (rs := [P934, [(t, .inr (10, [.ref m, .ref (G.2.2 1), .int (nI (e9 + 1)), .ref bq, .ref lq, .ref wq]))], [(bq, .inl (G.2.1 9, 4, .inr (.inr (.inr (.inr (rfN 4 bE))))))], famW 4 (fun ι => iaP G (bE ι) 5 (bl ι)), [(lq, .inl (G.2.1 9, n, .inr (.inr (.inr (.inr (rfN n lE))))))], famW n (fun ι => iaP G (lE ι) 2 (lx ι)), [(wq, .inl (G.2.1 9, q, .inr (.inr (.inr (.inr (rfN q wE))))))], Ww]) rfl (by decide) (by decide) ?_
                rintro _ _ ⟨P938, ⟨rfl, hW38⟩, rfl⟩
                refine V_eqi (y := S.1 2) (rfl) ?_
                refine V_istore hC dL_law_413 (L' := [(16, .int (S.1 2)), (15, .int (S.1 4)), (14, .int lf), (13, .int (faI (setF (nI fl) S) w)), (11, .long dg1), (10, .int (nI w)), (0, .ref (G.2.2 1)), (1, .int (nI time)), (2, .ref t), (3, .ref o), (4, .ref m), (5, .int (nI M)), (6, .int (nI k)), (8, .int (nI fl))]) (by decide) rfl ?_
                refine V_aload hC dL_law_415 10 rfl ?_
                refine V_iload hC dL_law_417 13 rfl ?_
                obtain ⟨fshm39, hm39⟩ := isW_mem hW38
                refine V_calli hC (V_runV hC (rest := []) [.int (nI fl)] (w_flame l hl0 G m 4 bz n f g S nl lz P938 (nI fl) hW38 hok.1 (inR_nI (M := 9) hfl)) [0] rfl (by decide) q477 q478 q479 q20 q480 ⟨by decide, by decide, rfl⟩ ⟨by decide, by decide⟩ (ci := 9) rfl (mem_pc 0 rfl hm39) rfl (Nat.le_of_ble_eq_true rfl) ⟨(by show 1100 * time + 500 + 60 * k + 38 + 1 ≤ 853861; omega), (by show 9000 * time + 3000 + 600 * k + 352 + 6 ≤ 6540115; omega)⟩ dL_law_419) (is := [0]) rfl [1, 2, 3, 4, 5, 6, 7, 8] (rs := [P934, [(t, .inr (10, [.ref m, .ref (G.2.2 1), .int (nI (e9 + 1)), .ref bq, .ref lq, .ref wq]))], [(bq, .inl (G.2.1 9, 4, .inr (.inr (.inr (.inr (rfN 4 bE))))))], famW 4 (fun ι => iaP G (bE ι) 5 (bl ι)), [(lq, .inl (G.2.1 9, n, .inr (.inr (.inr (.inr (rfN n lE))))))], famW n (fun ι => iaP G (lE ι) 2 (lx ι)), [(wq, .inl (G.2.1 9, q, .inr (.inr (.inr (.inr (rfN q wE))))))], Ww]) rfl (by decide) (by decide) ?_
                rintro fr1 _ ⟨P940, hW40, rfl⟩
                refine V_pop hC dL_law_422 rfl ?_
                refine V_aload_n hC dL_law_423 9 rfl ?_
                refine V_iload hC dL_law_424 13 rfl ?_
                obtain ⟨fshm41, hm41⟩ := isW_mem hW34
                refine V_calli hC (V_runV hC (rest := []) [.int (nI fl)] (w_flame l hl0 G o 4 bz1 n f1 g1 S1 nl lz1 P934 (nI fl) hW34 hok.2 (inR_nI (M := 9) hfl)) [1] rfl (by decide) q477 q478 q479 q20 q480 ⟨by decide, by decide, rfl⟩ ⟨by decide, by decide⟩ (ci := 9) rfl (mem_pc 1 rfl hm41) rfl (Nat.le_of_ble_eq_true rfl) ⟨(by show 1100 * time + 500 + 60 * k + 38 + 1 + 1 ≤ 853861; omega), (by show 9000 * time + 3000 + 600 * k + 352 + 6 + 6 ≤ 6540115; omega)⟩ dL_law_426) (is := [1]) rfl [0, 2, 3, 4, 5, 6, 7, 8] (rs := [P940, [(t, .inr (10, [.ref m, .ref (G.2.2 1), .int (nI (e9 + 1)), .ref bq, .ref lq, .ref wq]))], [(bq, .inl (G.2.1 9, 4, .inr (.inr (.inr (.inr (rfN 4 bE))))))], famW 4 (fun ι => iaP G (bE ι) 5 (bl ι)), [(lq, .inl (G.2.1 9, n, .inr (.inr (.inr (.inr (rfN n lE))))))], famW n (fun ι => iaP G (lE ι) 2 (lx ι)), [(wq, .inl (G.2.1 9, q, .inr (.inr (.inr (.inr (rfN q wE))))))], Ww]) rfl (by decide) (by decide) ?_
                rintro fr2 _ ⟨P942, hW42, rfl⟩
                refine V_pop hC dL_law_429 rfl ?_
                have hF := lw_fl hI hfl
                have hokF := lw_ok hF
                have hR := (lw_run hF w).1
                have hokR := lw_ok hR
                have hfr := lw_free hF w
                have hN12 : (rIt (setF (nI fl) S) nl lz 0 w).1 ≤ 12 := by have := hR.2.2.2.2.2.2; omega
                have hNle : (rIt (setF (nI fl) S) nl lz 0 w).2.2.2 ≤ 12 := by have := hfr.1; omega
                refine V_iconst hC dL_law_430 (v := 0) (by decide) ?_
                refine V_istore hC dL_law_431 (L' := [(17, .int 0), (16, .int (S.1 2)), (15, .int (S.1 4)), (14, .int lf), (13, .int (faI (setF (nI fl) S) w)), (11, .long dg1), (10, .int (nI w)), (0, .ref (G.2.2 1)), (1, .int (nI time)), (2, .ref t), (3, .ref o), (4, .ref m), (5, .int (nI M)), (6, .int (nI k)), (8, .int (nI fl))]) (by decide) rfl ?_
                refine V_iconst hC dL_law_433 (v := 0) (by decide) ?_
                refine V_istore hC dL_law_434 (L' := [(18, .int 0), (17, .int 0), (16, .int (S.1 2)), (15, .int (S.1 4)), (14, .int lf), (13, .int (faI (setF (nI fl) S) w)), (11, .long dg1), (10, .int (nI w)), (0, .ref (G.2.2 1)), (1, .int (nI time)), (2, .ref t), (3, .ref o), (4, .ref m), (5, .int (nI M)), (6, .int (nI k)), (8, .int (nI fl))]) (by decide) rfl ?_
                have loop43 : ∀ (fuel : Nat) (x : Nat) (Po : va_W) (hx : x ≤ w) (hWo : isW G o 4 bz1 n f1 g1 (kIt x (setF (nI fl) S1)) ((rIt (setF (nI fl) S1) nl lz1 0 x).1) ((rIt (setF (nI fl) S1) nl lz1 0 x).2.1) Po) (_ : w - x < fuel), V pP l eE room_1 sS mM aA bB tT cC QQ G AA 22 [[(t, .inr (10, [.ref m, .ref (G.2.2 1), .int (nI (e9 + 1)), .ref bq, .ref lq, .ref wq]))], [(bq, .inl (G.2.1 9, 4, .inr (.inr (.inr (.inr (rfN 4 bE))))))], famW 4 (fun ι => iaP G (bE ι) 5 (bl ι)), [(lq, .inl (G.2.1 9, n, .inr (.inr (.inr (.inr (rfN n lE))))))], famW n (fun ι => iaP G (lE ι) 2 (lx ι)), [(wq, .inl (G.2.1 9, q, .inr (.inr (.inr (.inr (rfN q wE))))))], Ww, P940, Po] (1100 * time + 500 + 60 * k + 38 + 1 + 1 + 1 * x) (9000 * time + 3000 + 600 * k + 352 + 6 + 6 + 6 * x) 436 [(0, .ref (G.2.2 1)), (1, .int (nI time)), (2, .ref t), (3, .ref o), (4, .ref m), (5, .int (nI M)), (6, .int (nI k)), (8, .int (nI fl)), (10, .int (nI w)), (13, .int (faI (setF (nI fl) S) w)), (14, .int lf), (15, .int (S.1 4)), (16, .int (S.1 2)), (17, .int (nI (rIt (setF (nI fl) S1) nl lz1 0 x).2.2.2)), (18, .int (nI x))] [] := by
                  intro fuel
                  induction fuel with
                  | zero => intro x Po hx hWo hm; exact absurd hm (Nat.not_lt_zero _)
                  | succ fuel ih =>
                    intro x Po hx hWo hm
                    have ihx := ih
                    refine V_iload hC dL_law_436 14 rfl ?_
                    refine V_iload hC dL_law_438 8 rfl ?_
                    refine V_icmp_ge hC dL_law_440 (tgt := 459) (by decide) (fun h44 => ?_) (fun h44 => ?_)
                    · have he : x = w := by have := nle h44; omega
                      rw [he] at hWo
                      rw [he]
                      rw [(lw_run hF w).2.1] at hWo
                      refine V_aload hC dL_law_459 4 rfl ?_
                      refine V_iload hC dL_law_461 8 rfl ?_
                      obtain ⟨fshm45, hm45⟩ := isW_mem hW40
                      refine V_calli hC (V_runV hC (rest := []) [.int (nI w)] (w_run l hl0 G m 4 bz n f g (setF (nI fl) S) nl lz P940 w hW40 hokF.1 (by omega) (by omega) ((lw_du hF).1 w)) [7] rfl (by decide) q485 q486 q487 q20 q488 ⟨by decide, by decide, rfl⟩ ⟨by decide, by decide⟩ (ci := 9) rfl (mem_pc 7 rfl hm45) rfl (Nat.le_of_ble_eq_true rfl) ⟨(by show 1100 * time + 500 + 60 * k + 38 + 1 + 1 + 1 * w + 1 ≤ 853861; omega), (by show 9000 * time + 3000 + 600 * k + 352 + 6 + 6 + 6 * w + 6 ≤ 6540115; omega)⟩ dL_law_463) (is := [7]) rfl [0, 1, 2, 3, 4, 5, 6, 8] (rs := [[(t, .inr (10, [.ref m, .ref (G.2.2 1), .int (nI (e9 + 1)), .ref bq, .ref lq, .ref wq]))], [(bq, .inl (G.2.1 9, 4, .inr (.inr (.inr (.inr (rfN 4 bE))))))], famW 4 (fun ι => iaP G (bE ι) 5 (bl ι)), [(lq, .inl (G.2.1 9, n, .inr (.inr (.inr (.inr (rfN n lE))))))], famW n (fun ι => iaP G (lE ι) 2 (lx ι)), [(wq, .inl (G.2.1 9, q, .inr (.inr (.inr (.inr (rfN q wE))))))], Ww, Po]) rfl (by decide) (by decide) ?_
                      rintro _ _ ⟨P946, ⟨rfl, hW46⟩, rfl⟩
                      refine V_iload hC dL_law_466 13 rfl ?_
                      refine V_eqi (y := nI (rIt (setF (nI fl) S) nl lz 0 w).2.2.2) (congrArg nI (lw_run hF w).2.2) ?_
                      refine V_icmp_neF hC dL_law_468 (tgt := 484) (by decide) (rfl) ?_
                      refine V_aload hC dL_law_471 4 rfl ?_
                      obtain ⟨fshm47, hm47⟩ := isW_mem hW46
                      refine V_calll hC (V_runV hC (rest := []) [] (w_digest l G m 4 bz n f g (kIt w (setF (nI fl) S)) ((rIt (setF (nI fl) S) nl lz 0 w).1) ((rIt (setF (nI fl) S) nl lz 0 w).2.1) P946 hW46 hokR.1 ) [0] rfl (by decide) q622 q623 q624 q20 q625 ⟨by decide, by decide, rfl⟩ ⟨by decide, by decide⟩ (ci := 9) rfl (mem_pc 0 rfl hm47) rfl (Nat.le_of_ble_eq_true rfl) ⟨(by show 1100 * time + 500 + 60 * k + 38 + 1 + 1 + 1 * w + 1 + 0 ≤ 853861; omega), (by show 9000 * time + 3000 + 600 * k + 352 + 6 + 6 + 6 * w + 6 + 0 ≤ 6540115; omega)⟩ dL_law_473) (is := [0]) rfl [1, 2, 3, 4, 5, 6, 7, 8] (rs := [[(t, .inr (10, [.ref m, .ref (G.2.2 1), .int (nI (e9 + 1)), .ref bq, .ref lq, .ref wq]))], [(bq, .inl (G.2.1 9, 4, .inr (.inr (.inr (.inr (rfN 4 bE))))))], famW 4 (fun ι => iaP G (bE ι) 5 (bl ι)), [(lq, .inl (G.2.1 9, n, .inr (.inr (.inr (.inr (rfN n lE))))))], famW n (fun ι => iaP G (lE ι) 2 (lx ι)), [(wq, .inl (G.2.1 9, q, .inr (.inr (.inr (.inr (rfN q wE))))))], Ww, Po]) rfl (by decide) (by decide) ?_
                      rintro dg4 _ ⟨P948, ⟨hd48, hW48⟩, rfl⟩
                      refine V_aload_n hC dL_law_476 3 rfl ?_
                      obtain ⟨fshm49, hm49⟩ := isW_mem hWo
                      refine V_calll hC (V_runV hC (rest := [.long dg4]) [] (w_digest l G o 4 bz1 n f1 g1 (kIt w (setF (nI fl) S1)) ((rIt (setF (nI fl) S) nl lz 0 w).1) ((rIt (setF (nI fl) S1) nl lz1 0 w).2.1) Po hWo hokR.2 ) [8] rfl (by decide) q622 q623 q624 q20 q625 ⟨by decide, by decide, rfl⟩ ⟨by decide, by decide⟩ (ci := 9) rfl (mem_pc 8 rfl hm49) rfl (Nat.le_of_ble_eq_true rfl) ⟨(by show 1100 * time + 500 + 60 * k + 38 + 1 + 1 + 1 * w + 1 + 0 ≤ 853861; omega), (by show 9000 * time + 3000 + 600 * k + 352 + 6 + 6 + 6 * w + 6 + 0 ≤ 6540115; omega)⟩ dL_law_477) (is := [8]) rfl [0, 1, 2, 3, 4, 5, 6, 7] (rs := [P948, [(t, .inr (10, [.ref m, .ref (G.2.2 1), .int (nI (e9 + 1)), .ref bq, .ref lq, .ref wq]))], [(bq, .inl (G.2.1 9, 4, .inr (.inr (.inr (.inr (rfN 4 bE))))))], famW 4 (fun ι => iaP G (bE ι) 5 (bl ι)), [(lq, .inl (G.2.1 9, n, .inr (.inr (.inr (.inr (rfN n lE))))))], famW n (fun ι => iaP G (lE ι) 2 (lx ι)), [(wq, .inl (G.2.1 9, q, .inr (.inr (.inr (.inr (rfN q wE))))))], Ww]) rfl (by decide) (by decide) ?_
                      rintro dg5 _ ⟨P950, ⟨hd50, hW50⟩, rfl⟩
                      refine V_lcmp hC dL_law_480 ?_
                      refine V_eqi (y := 0) (lg_0 (lw_dig hR hd48 hd50).symm) ?_
                      refine V_if_eqT hC dL_law_481 (tgt := 486) (by decide) (by decide) ?_
                      refine V_iload hC dL_law_486 13 rfl ?_
                      refine V_eqi (y := nI (rIt (setF (nI fl) S) nl lz 0 w).2.2.2) (congrArg nI (lw_run hF w).2.2) ?_
                      refine V_if_ne hC dL_law_488 (tgt := 495) (by decide) (fun h51 => ?_) (fun h51 => ?_)
                      · have hN : 0 < (rIt (setF (nI fl) S) nl lz 0 w).2.2.2 := Nat.pos_of_ne_zero (fun e => h51 (by rw [e]; rfl))
                        refine V_iconst hC dL_law_495 (v := 0) (by decide) ?_
                        refine V_iload hC dL_law_496 9 rfl ?_
                        refine V_iconst hC dL_law_498 (v := (-1)) (by decide) ?_
                        refine V_icmp_neT hC dL_law_499 (tgt := 506) (by decide) ((hfr.2.2 hN).2) ?_
                        refine V_iconst hC dL_law_506 (v := 0) (by decide) ?_
                        refine V_icmp_neF hC dL_law_507 (tgt := 535) (by decide) (by decide) ?_
                        refine V_iload hC dL_law_510 13 rfl ?_
                        refine V_eqi (y := nI (rIt (setF (nI fl) S) nl lz 0 w).2.2.2) (congrArg nI (lw_run hF w).2.2) ?_
                        refine V_if_leF hC dL_law_512 (tgt := 537) (by decide) (fun q9 => absurd (nle (b := 0) q9) (by omega)) ?_
                        refine V_iload hC dL_law_515 9 rfl ?_
                        refine V_aload hC dL_law_517 4 rfl ?_
                        refine V_aload hC dL_law_519 4 rfl ?_
                        refine V_bipush hC dL_law_521 (v := 10) (by decide) ?_
                        obtain ⟨fshm52, hm52⟩ := isW_mem hW48
                        refine V_calli hC (V_runV hC (rest := [.ref m, .int (faI (setF (nI fl) S) w)]) [.int 10] (w_many l G m 4 bz n f g (kIt w (setF (nI fl) S)) ((rIt (setF (nI fl) S) nl lz 0 w).1) ((rIt (setF (nI fl) S) nl lz 0 w).2.1) P948 10 hW48 hokR.1 (by decide)) [1] rfl (by decide) q587 q588 q589 q20 q590 ⟨by decide, by decide, rfl⟩ ⟨by decide, by decide⟩ (ci := 9) rfl (mem_pc 1 rfl hm52) rfl (Nat.le_of_ble_eq_true rfl) ⟨(by show 1100 * time + 500 + 60 * k + 38 + 1 + 1 + 1 * w + 1 + 0 ≤ 853861; omega), (by show 9000 * time + 3000 + 600 * k + 352 + 6 + 6 + 6 * w + 6 + 0 ≤ 6540115; omega)⟩ dL_law_523) (is := [1]) rfl [0, 2, 3, 4, 5, 6, 7, 8] (rs := [P950, [(t, .inr (10, [.ref m, .ref (G.2.2 1), .int (nI (e9 + 1)), .ref bq, .ref lq, .ref wq]))], [(bq, .inl (G.2.1 9, 4, .inr (.inr (.inr (.inr (rfN 4 bE))))))], famW 4 (fun ι => iaP G (bE ι) 5 (bl ι)), [(lq, .inl (G.2.1 9, n, .inr (.inr (.inr (.inr (rfN n lE))))))], famW n (fun ι => iaP G (lE ι) 2 (lx ι)), [(wq, .inl (G.2.1 9, q, .inr (.inr (.inr (.inr (rfN q wE))))))], Ww]) rfl (by decide) (by decide) ?_
                        rintro _ _ ⟨P953, ⟨rfl, hW53⟩, rfl⟩
                        refine V_eqi (y := nI (rIt (setF (nI fl) S) nl lz 0 w).1) (rfl) ?_
                        refine V_iconst hC dL_law_526 (v := 1) (by decide) ?_
                        refine V_isub hC dL_law_527 ?_
                        refine V_eqi (y := nI ((rIt (setF (nI fl) S) nl lz 0 w).1 - 1)) (pk_sub (b := 1) (by omega)) ?_
                        refine V_iconst hC dL_law_528 (v := 5) (by decide) ?_
                        obtain ⟨fshm54, hm54⟩ := isW_mem hW53
                        refine V_calli hC (V_runV hC (rest := [.int (faI (setF (nI fl) S) w)]) [.int (nI ((rIt (setF (nI fl) S) nl lz 0 w).1 - 1)), .int 5] (w_ofLot l G m 4 bz n f g (kIt w (setF (nI fl) S)) ((rIt (setF (nI fl) S) nl lz 0 w).1) ((rIt (setF (nI fl) S) nl lz 0 w).2.1) P953 ((rIt (setF (nI fl) S) nl lz 0 w).1 - 1) 5 hW53 hokR.1 (by have := hfr.1; omega) (by decide)) [0] rfl (by decide) q538 q539 q540 q20 q541 ⟨by decide, by decide, rfl⟩ ⟨by decide, by decide⟩ (ci := 9) rfl (mem_pc 0 rfl hm54) rfl (Nat.le_of_ble_eq_true rfl) ⟨(by show 1100 * time + 500 + 60 * k + 38 + 1 + 1 + 1 * w + 1 + 0 ≤ 853861; omega), (by show 9000 * time + 3000 + 600 * k + 352 + 6 + 6 + 6 * w + 6 + 0 ≤ 6540115; omega)⟩ dL_law_529) (is := [0]) rfl [1, 2, 3, 4, 5, 6, 7, 8] (rs := [P950, [(t, .inr (10, [.ref m, .ref (G.2.2 1), .int (nI (e9 + 1)), .ref bq, .ref lq, .ref wq]))], [(bq, .inl (G.2.1 9, 4, .inr (.inr (.inr (.inr (rfN 4 bE))))))], famW 4 (fun ι => iaP G (bE ι) 5 (bl ι)), [(lq, .inl (G.2.1 9, n, .inr (.inr (.inr (.inr (rfN n lE))))))], famW n (fun ι => iaP G (lE ι) 2 (lx ι)), [(wq, .inl (G.2.1 9, q, .inr (.inr (.inr (.inr (rfN q wE))))))], Ww]) rfl (by decide) (by decide) ?_
                        rintro _ _ ⟨P955, ⟨rfl, hW55⟩, rfl⟩
                        refine V_eqi (y := ((rIt (setF (nI fl) S) nl lz 0 w).2.1 ((rIt (setF (nI fl) S) nl lz 0 w).1 - 1)).2.2.1 2) (rfl) ?_
                        refine V_icmp_eqT hC dL_law_532 (tgt := 537) (by decide) ((hfr.2.2 hN).1) ?_
                        refine V_iload hC dL_law_537 12 rfl ?_
                        refine V_if_le hC dL_law_539 (tgt := 568) (by decide) (fun h56 => ?_) (fun h56 => ?_)
                        · refine V_loc (L' := [(0, .ref (G.2.2 1)), (1, .int (nI time)), (2, .ref t), (3, .ref o), (4, .ref m), (5, .int (nI M)), (6, .int (nI k))]) [0, 1, 2, 3, 4, 5, 6] rfl ?_
                          refine V_sub [2, 3, 4, 5, 6, 7, 8, 0, 1] (by decide) (u := [[(t, .inr (10, [.ref m, .ref (G.2.2 1), .int (nI (e9 + 1)), .ref bq, .ref lq, .ref wq]))], [(bq, .inl (G.2.1 9, 4, .inr (.inr (.inr (.inr (rfN 4 bE))))))], famW 4 (fun ι => iaP G (bE ι) 5 (bl ι)), [(lq, .inl (G.2.1 9, n, .inr (.inr (.inr (.inr (rfN n lE))))))], famW n (fun ι => iaP G (lE ι) 2 (lx ι)), [(wq, .inl (G.2.1 9, q, .inr (.inr (.inr (.inr (rfN q wE))))))], Ww, P955, P950]) rfl ?_
                          refine V_widen (show 1100 * time + 500 + 60 * k + 38 + 1 + 1 + 1 * w + 1 ≤ 1100 * time + 500 + 60 * k + 46 by omega) (show 9000 * time + 3000 + 600 * k + 352 + 6 + 6 + 6 * w + 6 ≤ 9000 * time + 3000 + 600 * k + 400 by omega) ?_
                          exact J568 _ _ _ _ _ _ _ _ _ _ _ _ _ _ _ _ _ _ _ _ _ _ (by omega) hR hW55 hW50 (by rw [hq]; exact kIt_q (S := (setF (nI fl) S)) w) hwA (by omega)
                        · have hr0 : ¬ S.1 2 = 0 := fun e => h56 (by rw [e]; decide)
                          refine V_aload hC dL_law_542 4 rfl ?_
                          refine V_bipush hC dL_law_544 (v := 8) (by decide) ?_
                          obtain ⟨fshm57, hm57⟩ := isW_mem hW55
                          refine V_calli hC (V_runV hC (rest := []) [.int 8] (w_many l G m 4 bz n f g (kIt w (setF (nI fl) S)) ((rIt (setF (nI fl) S) nl lz 0 w).1) ((rIt (setF (nI fl) S) nl lz 0 w).2.1) P955 8 hW55 hokR.1 (by decide)) [0] rfl (by decide) q587 q588 q589 q20 q590 ⟨by decide, by decide, rfl⟩ ⟨by decide, by decide⟩ (ci := 9) rfl (mem_pc 0 rfl hm57) rfl (Nat.le_of_ble_eq_true rfl) ⟨(by show 1100 * time + 500 + 60 * k + 38 + 1 + 1 + 1 * w + 1 + 0 ≤ 853861; omega), (by show 9000 * time + 3000 + 600 * k + 352 + 6 + 6 + 6 * w + 6 + 0 ≤ 6540115; omega)⟩ dL_law_546) (is := [0]) rfl [1, 2, 3, 4, 5, 6, 7, 8] (rs := [P950, [(t, .inr (10, [.ref m, .ref (G.2.2 1), .int (nI (e9 + 1)), .ref bq, .ref lq, .ref wq]))], [(bq, .inl (G.2.1 9, 4, .inr (.inr (.inr (.inr (rfN 4 bE))))))], famW 4 (fun ι => iaP G (bE ι) 5 (bl ι)), [(lq, .inl (G.2.1 9, n, .inr (.inr (.inr (.inr (rfN n lE))))))], famW n (fun ι => iaP G (lE ι) 2 (lx ι)), [(wq, .inl (G.2.1 9, q, .inr (.inr (.inr (.inr (rfN q wE))))))], Ww]) rfl (by decide) (by decide) ?_
                          rintro _ _ ⟨P958, ⟨rfl, hW58⟩, rfl⟩
                          refine V_eqi (y := (kIt w (setF (nI fl) S)).1 4) (rfl) ?_
                          refine V_iload hC dL_law_549 11 rfl ?_
                          refine V_icmp_le hC dL_law_551 (tgt := 568) (by decide) (fun h59 => ?_) (fun h59 => ?_)
                          · refine V_loc (L' := [(0, .ref (G.2.2 1)), (1, .int (nI time)), (2, .ref t), (3, .ref o), (4, .ref m), (5, .int (nI M)), (6, .int (nI k))]) [0, 1, 2, 3, 4, 5, 6] rfl ?_
                            refine V_sub [2, 3, 4, 5, 6, 7, 8, 0, 1] (by decide) (u := [[(t, .inr (10, [.ref m, .ref (G.2.2 1), .int (nI (e9 + 1)), .ref bq, .ref lq, .ref wq]))], [(bq, .inl (G.2.1 9, 4, .inr (.inr (.inr (.inr (rfN 4 bE))))))], famW 4 (fun ι => iaP G (bE ι) 5 (bl ι)), [(lq, .inl (G.2.1 9, n, .inr (.inr (.inr (.inr (rfN n lE))))))], famW n (fun ι => iaP G (lE ι) 2 (lx ι)), [(wq, .inl (G.2.1 9, q, .inr (.inr (.inr (.inr (rfN q wE))))))], Ww, P958, P950]) rfl ?_
                            refine V_widen (show 1100 * time + 500 + 60 * k + 38 + 1 + 1 + 1 * w + 1 ≤ 1100 * time + 500 + 60 * k + 46 by omega) (show 9000 * time + 3000 + 600 * k + 352 + 6 + 6 + 6 * w + 6 ≤ 9000 * time + 3000 + 600 * k + 400 by omega) ?_
                            exact J568 _ _ _ _ _ _ _ _ _ _ _ _ _ _ _ _ _ _ _ _ _ _ (by omega) hR hW58 hW50 (by rw [hq]; exact kIt_q (S := (setF (nI fl) S)) w) hwA (by omega)
                          · have hfo := fall_ok hS3 hl30 hr0 hw1 hfl (z32_nle h59)
                            refine V_iload hC dL_law_554 10 rfl ?_
                            refine V_if_ltF hC dL_law_556 (tgt := 566) (by decide) (hfo.1) ?_
                            refine V_iload hC dL_law_559 10 rfl ?_
                            refine V_iload hC dL_law_561 7 rfl ?_
                            refine V_icmp_leT hC dL_law_563 (tgt := 568) (by decide) (z32_le hfo.2) ?_
                            refine V_loc (L' := [(0, .ref (G.2.2 1)), (1, .int (nI time)), (2, .ref t), (3, .ref o), (4, .ref m), (5, .int (nI M)), (6, .int (nI k))]) [0, 1, 2, 3, 4, 5, 6] rfl ?_
                            refine V_sub [2, 3, 4, 5, 6, 7, 8, 0, 1] (by decide) (u := [[(t, .inr (10, [.ref m, .ref (G.2.2 1), .int (nI (e9 + 1)), .ref bq, .ref lq, .ref wq]))], [(bq, .inl (G.2.1 9, 4, .inr (.inr (.inr (.inr (rfN 4 bE))))))], famW 4 (fun ι => iaP G (bE ι) 5 (bl ι)), [(lq, .inl (G.2.1 9, n, .inr (.inr (.inr (.inr (rfN n lE))))))], famW n (fun ι => iaP G (lE ι) 2 (lx ι)), [(wq, .inl (G.2.1 9, q, .inr (.inr (.inr (.inr (rfN q wE))))))], Ww, P958, P950]) rfl ?_
                            refine V_widen (show 1100 * time + 500 + 60 * k + 38 + 1 + 1 + 1 * w + 1 ≤ 1100 * time + 500 + 60 * k + 46 by omega) (show 9000 * time + 3000 + 600 * k + 352 + 6 + 6 + 6 * w + 6 ≤ 9000 * time + 3000 + 600 * k + 400 by omega) ?_
                            exact J568 _ _ _ _ _ _ _ _ _ _ _ _ _ _ _ _ _ _ _ _ _ _ (by omega) hR hW58 hW50 (by rw [hq]; exact kIt_q (S := (setF (nI fl) S)) w) hwA (by omega)
                      · have hN : (rIt (setF (nI fl) S) nl lz 0 w).2.2.2 = 0 := nI_z h51 (by omega)
                        refine V_iconst hC dL_law_491 (v := 1) (by decide) ?_
                        refine V_goto hC dL_law_492 (tgt := 496) (by decide) ?_
                        refine V_iload hC dL_law_496 9 rfl ?_
                        refine V_iconst hC dL_law_498 (v := (-1)) (by decide) ?_
                        refine V_icmp_neF hC dL_law_499 (tgt := 506) (by decide) (hfr.2.1 hN) ?_
                        refine V_iconst hC dL_law_502 (v := 1) (by decide) ?_
                        refine V_goto hC dL_law_503 (tgt := 507) (by decide) ?_
                        refine V_icmp_neF hC dL_law_507 (tgt := 535) (by decide) (by decide) ?_
                        refine V_iload hC dL_law_510 13 rfl ?_
                        refine V_eqi (y := nI (rIt (setF (nI fl) S) nl lz 0 w).2.2.2) (congrArg nI (lw_run hF w).2.2) ?_
                        refine V_if_leT hC dL_law_512 (tgt := 537) (by decide) (by rw [hN]; decide) ?_
                        refine V_iload hC dL_law_537 12 rfl ?_
                        refine V_if_le hC dL_law_539 (tgt := 568) (by decide) (fun h60 => ?_) (fun h60 => ?_)
                        · refine V_loc (L' := [(0, .ref (G.2.2 1)), (1, .int (nI time)), (2, .ref t), (3, .ref o), (4, .ref m), (5, .int (nI M)), (6, .int (nI k))]) [0, 1, 2, 3, 4, 5, 6] rfl ?_
                          refine V_sub [2, 3, 4, 5, 6, 7, 8, 1, 0] (by decide) (u := [[(t, .inr (10, [.ref m, .ref (G.2.2 1), .int (nI (e9 + 1)), .ref bq, .ref lq, .ref wq]))], [(bq, .inl (G.2.1 9, 4, .inr (.inr (.inr (.inr (rfN 4 bE))))))], famW 4 (fun ι => iaP G (bE ι) 5 (bl ι)), [(lq, .inl (G.2.1 9, n, .inr (.inr (.inr (.inr (rfN n lE))))))], famW n (fun ι => iaP G (lE ι) 2 (lx ι)), [(wq, .inl (G.2.1 9, q, .inr (.inr (.inr (.inr (rfN q wE))))))], Ww, P948, P950]) rfl ?_
                          refine V_widen (show 1100 * time + 500 + 60 * k + 38 + 1 + 1 + 1 * w + 1 ≤ 1100 * time + 500 + 60 * k + 46 by omega) (show 9000 * time + 3000 + 600 * k + 352 + 6 + 6 + 6 * w + 6 ≤ 9000 * time + 3000 + 600 * k + 400 by omega) ?_
                          exact J568 _ _ _ _ _ _ _ _ _ _ _ _ _ _ _ _ _ _ _ _ _ _ (by omega) hR hW48 hW50 (by rw [hq]; exact kIt_q (S := (setF (nI fl) S)) w) hwA (by omega)
                        · have hr0 : ¬ S.1 2 = 0 := fun e => h60 (by rw [e]; decide)
                          refine V_aload hC dL_law_542 4 rfl ?_
                          refine V_bipush hC dL_law_544 (v := 8) (by decide) ?_
                          obtain ⟨fshm61, hm61⟩ := isW_mem hW48
                          refine V_calli hC (V_runV hC (rest := []) [.int 8] (w_many l G m 4 bz n f g (kIt w (setF (nI fl) S)) ((rIt (setF (nI fl) S) nl lz 0 w).1) ((rIt (setF (nI fl) S) nl lz 0 w).2.1) P948 8 hW48 hokR.1 (by decide)) [1] rfl (by decide) q587 q588 q589 q20 q590 ⟨by decide, by decide, rfl⟩ ⟨by decide, by decide⟩ (ci := 9) rfl (mem_pc 1 rfl hm61) rfl (Nat.le_of_ble_eq_true rfl) ⟨(by show 1100 * time + 500 + 60 * k + 38 + 1 + 1 + 1 * w + 1 + 0 ≤ 853861; omega), (by show 9000 * time + 3000 + 600 * k + 352 + 6 + 6 + 6 * w + 6 + 0 ≤ 6540115; omega)⟩ dL_law_546) (is := [1]) rfl [0, 2, 3, 4, 5, 6, 7, 8] (rs := [P950, [(t, .inr (10, [.ref m, .ref (G.2.2 1), .int (nI (e9 + 1)), .ref bq, .ref lq, .ref wq]))], [(bq, .inl (G.2.1 9, 4, .inr (.inr (.inr (.inr (rfN 4 bE))))))], famW 4 (fun ι => iaP G (bE ι) 5 (bl ι)), [(lq, .inl (G.2.1 9, n, .inr (.inr (.inr (.inr (rfN n lE))))))], famW n (fun ι => iaP G (lE ι) 2 (lx ι)), [(wq, .inl (G.2.1 9, q, .inr (.inr (.inr (.inr (rfN q wE))))))], Ww]) rfl (by decide) (by decide) ?_
                          rintro _ _ ⟨P962, ⟨rfl, hW62⟩, rfl⟩
                          refine V_eqi (y := (kIt w (setF (nI fl) S)).1 4) (rfl) ?_
                          refine V_iload hC dL_law_549 11 rfl ?_
                          refine V_icmp_le hC dL_law_551 (tgt := 568) (by decide) (fun h63 => ?_) (fun h63 => ?_)
                          · refine V_loc (L' := [(0, .ref (G.2.2 1)), (1, .int (nI time)), (2, .ref t), (3, .ref o), (4, .ref m), (5, .int (nI M)), (6, .int (nI k))]) [0, 1, 2, 3, 4, 5, 6] rfl ?_
                            refine V_sub [2, 3, 4, 5, 6, 7, 8, 0, 1] (by decide) (u := [[(t, .inr (10, [.ref m, .ref (G.2.2 1), .int (nI (e9 + 1)), .ref bq, .ref lq, .ref wq]))], [(bq, .inl (G.2.1 9, 4, .inr (.inr (.inr (.inr (rfN 4 bE))))))], famW 4 (fun ι => iaP G (bE ι) 5 (bl ι)), [(lq, .inl (G.2.1 9, n, .inr (.inr (.inr (.inr (rfN n lE))))))], famW n (fun ι => iaP G (lE ι) 2 (lx ι)), [(wq, .inl (G.2.1 9, q, .inr (.inr (.inr (.inr (rfN q wE))))))], Ww, P962, P950]) rfl ?_
                            refine V_widen (show 1100 * time + 500 + 60 * k + 38 + 1 + 1 + 1 * w + 1 ≤ 1100 * time + 500 + 60 * k + 46 by omega) (show 9000 * time + 3000 + 600 * k + 352 + 6 + 6 + 6 * w + 6 ≤ 9000 * time + 3000 + 600 * k + 400 by omega) ?_
                            exact J568 _ _ _ _ _ _ _ _ _ _ _ _ _ _ _ _ _ _ _ _ _ _ (by omega) hR hW62 hW50 (by rw [hq]; exact kIt_q (S := (setF (nI fl) S)) w) hwA (by omega)
                          · have hfo := fall_ok hS3 hl30 hr0 hw1 hfl (z32_nle h63)
                            refine V_iload hC dL_law_554 10 rfl ?_
                            refine V_if_ltF hC dL_law_556 (tgt := 566) (by decide) (hfo.1) ?_
                            refine V_iload hC dL_law_559 10 rfl ?_
                            refine V_iload hC dL_law_561 7 rfl ?_
                            refine V_icmp_leT hC dL_law_563 (tgt := 568) (by decide) (z32_le hfo.2) ?_
                            refine V_loc (L' := [(0, .ref (G.2.2 1)), (1, .int (nI time)), (2, .ref t), (3, .ref o), (4, .ref m), (5, .int (nI M)), (6, .int (nI k))]) [0, 1, 2, 3, 4, 5, 6] rfl ?_
                            refine V_sub [2, 3, 4, 5, 6, 7, 8, 0, 1] (by decide) (u := [[(t, .inr (10, [.ref m, .ref (G.2.2 1), .int (nI (e9 + 1)), .ref bq, .ref lq, .ref wq]))], [(bq, .inl (G.2.1 9, 4, .inr (.inr (.inr (.inr (rfN 4 bE))))))], famW 4 (fun ι => iaP G (bE ι) 5 (bl ι)), [(lq, .inl (G.2.1 9, n, .inr (.inr (.inr (.inr (rfN n lE))))))], famW n (fun ι => iaP G (lE ι) 2 (lx ι)), [(wq, .inl (G.2.1 9, q, .inr (.inr (.inr (.inr (rfN q wE))))))], Ww, P962, P950]) rfl ?_
                            refine V_widen (show 1100 * time + 500 + 60 * k + 38 + 1 + 1 + 1 * w + 1 ≤ 1100 * time + 500 + 60 * k + 46 by omega) (show 9000 * time + 3000 + 600 * k + 352 + 6 + 6 + 6 * w + 6 ≤ 9000 * time + 3000 + 600 * k + 400 by omega) ?_
                            exact J568 _ _ _ _ _ _ _ _ _ _ _ _ _ _ _ _ _ _ _ _ _ _ (by omega) hR hW62 hW50 (by rw [hq]; exact kIt_q (S := (setF (nI fl) S)) w) hwA (by omega)
                    · have hlx9 : x < w := nnle h44
                      refine V_iload hC dL_law_443 13 rfl ?_
                      refine V_aload_n hC dL_law_445 3 rfl ?_
                      refine V_iconst hC dL_law_446 (v := 1) (by decide) ?_
                      obtain ⟨fshm64, hm64⟩ := isW_mem hWo
                      refine V_calli hC (V_runV hC (rest := [.int (nI (rIt (setF (nI fl) S1) nl lz1 0 x).2.2.2)]) [.int 1] (w_run l hl0 G o 4 bz1 n f1 g1 (kIt x (setF (nI fl) S1)) ((rIt (setF (nI fl) S1) nl lz1 0 x).1) ((rIt (setF (nI fl) S1) nl lz1 0 x).2.1) Po 1 hWo (lw_okr hF x) (by decide) (by decide) (run1 (lw_du hF).2 x).1) [8] rfl (by decide) q485 q486 q487 q20 q488 ⟨by decide, by decide, rfl⟩ ⟨by decide, by decide⟩ (ci := 9) rfl (mem_pc 8 rfl hm64) rfl (Nat.le_of_ble_eq_true rfl) ⟨(by show 1100 * time + 500 + 60 * k + 38 + 1 + 1 + 1 * x + 1 ≤ 853861; omega), (by show 9000 * time + 3000 + 600 * k + 352 + 6 + 6 + 6 * x + 6 ≤ 6540115; omega)⟩ dL_law_447) (is := [8]) rfl [0, 1, 2, 3, 4, 5, 6, 7] (rs := [[(t, .inr (10, [.ref m, .ref (G.2.2 1), .int (nI (e9 + 1)), .ref bq, .ref lq, .ref wq]))], [(bq, .inl (G.2.1 9, 4, .inr (.inr (.inr (.inr (rfN 4 bE))))))], famW 4 (fun ι => iaP G (bE ι) 5 (bl ι)), [(lq, .inl (G.2.1 9, n, .inr (.inr (.inr (.inr (rfN n lE))))))], famW n (fun ι => iaP G (lE ι) 2 (lx ι)), [(wq, .inl (G.2.1 9, q, .inr (.inr (.inr (.inr (rfN q wE))))))], Ww, P940]) rfl (by decide) (by decide) ?_
                      rintro _ _ ⟨P965, ⟨rfl, hW65⟩, rfl⟩
                      refine V_iadd hC dL_law_450 ?_
                      refine V_eqi (y := nI (rIt (setF (nI fl) S1) nl lz1 0 (x + 1)).2.2.2) ((nI_add _ _).trans (congrArg nI (run1 (lw_du hF).2 x).2.2.2)) ?_
                      refine V_istore hC dL_law_451 (L' := [(17, .int (nI (rIt (setF (nI fl) S1) nl lz1 0 (x + 1)).2.2.2)), (0, .ref (G.2.2 1)), (1, .int (nI time)), (2, .ref t), (3, .ref o), (4, .ref m), (5, .int (nI M)), (6, .int (nI k)), (8, .int (nI fl)), (10, .int (nI w)), (13, .int (faI (setF (nI fl) S) w)), (14, .int lf), (15, .int (S.1 4)), (16, .int (S.1 2)), (18, .int (nI x))]) (by decide) rfl ?_
                      refine V_iinc hC dL_law_453 (v := nI (x + 1)) (L' := [(18, .int (nI (x + 1))), (17, .int (nI (rIt (setF (nI fl) S1) nl lz1 0 (x + 1)).2.2.2)), (0, .ref (G.2.2 1)), (1, .int (nI time)), (2, .ref t), (3, .ref o), (4, .ref m), (5, .int (nI M)), (6, .int (nI k)), (8, .int (nI fl)), (10, .int (nI w)), (13, .int (faI (setF (nI fl) S) w)), (14, .int lf), (15, .int (S.1 4)), (16, .int (S.1 2))]) (j := 14) rfl (nI_1 _) (by decide) rfl ?_
                      refine V_goto hC dL_law_456 (tgt := 436) (by decide) ?_
                      refine V_loc (L' := [(0, .ref (G.2.2 1)), (1, .int (nI time)), (2, .ref t), (3, .ref o), (4, .ref m), (5, .int (nI M)), (6, .int (nI k)), (8, .int (nI fl)), (10, .int (nI w)), (13, .int (faI (setF (nI fl) S) w)), (14, .int lf), (15, .int (S.1 4)), (16, .int (S.1 2)), (17, .int (nI (rIt (setF (nI fl) S1) nl lz1 0 (x + 1)).2.2.2)), (18, .int (nI (x + 1)))]) [2, 3, 4, 5, 6, 7, 8, 9, 10, 11, 12, 13, 14, 1, 0] rfl ?_
                      refine V_sub [1, 2, 3, 4, 5, 6, 7, 8, 0] (by decide) (u := [[(t, .inr (10, [.ref m, .ref (G.2.2 1), .int (nI (e9 + 1)), .ref bq, .ref lq, .ref wq]))], [(bq, .inl (G.2.1 9, 4, .inr (.inr (.inr (.inr (rfN 4 bE))))))], famW 4 (fun ι => iaP G (bE ι) 5 (bl ι)), [(lq, .inl (G.2.1 9, n, .inr (.inr (.inr (.inr (rfN n lE))))))], famW n (fun ι => iaP G (lE ι) 2 (lx ι)), [(wq, .inl (G.2.1 9, q, .inr (.inr (.inr (.inr (rfN q wE))))))], Ww, P940, P965]) rfl ?_
                      have hw9 := hW65
                      rw [(run1 (lw_du hF).2 x).2.1, (run1 (lw_du hF).2 x).2.2.1] at hw9
                      refine V_widen (show 1100 * time + 500 + 60 * k + 38 + 1 + 1 + 1 * x + 1 ≤ 1100 * time + 500 + 60 * k + 38 + 1 + 1 + 1 * (x + 1) by omega) (show 9000 * time + 3000 + 600 * k + 352 + 6 + 6 + 6 * x + 6 ≤ 9000 * time + 3000 + 600 * k + 352 + 6 + 6 + 6 * (x + 1) by omega) ?_
                      exact ihx (x + 1) _ (by omega) hw9 (by omega)
                refine V_loc (L' := [(0, .ref (G.2.2 1)), (1, .int (nI time)), (2, .ref t), (3, .ref o), (4, .ref m), (5, .int (nI M)), (6, .int (nI k)), (8, .int (nI fl)), (10, .int (nI w)), (13, .int (faI (setF (nI fl) S) w)), (14, .int lf), (15, .int (S.1 4)), (16, .int (S.1 2)), (17, .int 0), (18, .int 0)]) [8, 9, 10, 11, 12, 13, 14, 15, 7, 5, 4, 3, 2, 1, 0] rfl ?_
                refine V_sub [2, 3, 4, 5, 6, 7, 8, 1, 0] (by decide) (u := [[(t, .inr (10, [.ref m, .ref (G.2.2 1), .int (nI (e9 + 1)), .ref bq, .ref lq, .ref wq]))], [(bq, .inl (G.2.1 9, 4, .inr (.inr (.inr (.inr (rfN 4 bE))))))], famW 4 (fun ι => iaP G (bE ι) 5 (bl ι)), [(lq, .inl (G.2.1 9, n, .inr (.inr (.inr (.inr (rfN n lE))))))], famW n (fun ι => iaP G (lE ι) 2 (lx ι)), [(wq, .inl (G.2.1 9, q, .inr (.inr (.inr (.inr (rfN q wE))))))], Ww, P940, P942]) rfl ?_
                exact loop43 (w + 1) 0 P942 (Nat.zero_le _) hW42 (by omega)
              have J296 : ∀ (e9 n q lq wq M : Nat) (lE wE : Nat → Nat) (lx : Nat → Nat → Int32) (f g f1 g1 : Nat → Int32) (p : Nat → Nat) (S S1 : KS) (nl : Nat) (lz lz1 : Nat → LV) (Ww Pm Po : va_W) (fl : Nat) (hd : e9 ≤ 66 + 9 * k + 6) (hI : lwI bz bz1 bl n f g f1 g1 p lx S S1 nl lz lz1 M) (hWm : isW G m 4 bz n f g S nl lz Pm) (hWo : isW G o 4 bz1 n f1 g1 S1 nl lz1 Po) (hq : q = S.2.1) (hwA : ∀ i, i < q → iaIn G Ww (wE i)) (hfl : fl ≤ 9), V pP l eE room_1 sS mM aA bB tT cC QQ G AA 22 [[(t, .inr (10, [.ref m, .ref (G.2.2 1), .int (nI e9), .ref bq, .ref lq, .ref wq]))], [(bq, .inl (G.2.1 9, 4, .inr (.inr (.inr (.inr (rfN 4 bE))))))], famW 4 (fun ι => iaP G (bE ι) 5 (bl ι)), [(lq, .inl (G.2.1 9, n, .inr (.inr (.inr (.inr (rfN n lE))))))], famW n (fun ι => iaP G (lE ι) 2 (lx ι)), [(wq, .inl (G.2.1 9, q, .inr (.inr (.inr (.inr (rfN q wE))))))], Ww, Pm, Po] (1100 * time + 500 + 60 * k + 36) (9000 * time + 3000 + 600 * k + 340) 296 [(0, .ref (G.2.2 1)), (1, .int (nI time)), (2, .ref t), (3, .ref o), (4, .ref m), (5, .int (nI M)), (6, .int (nI k))] [.int (nI fl)] := by
                intro e9 n q lq wq M lE wE lx f g f1 g1 p S S1 nl lz lz1 Ww Pm Po fl hd hI hWm hWo hq hwA hfl
                have hok := lw_ok hI
                have hS3 : S.2.1 ≤ 3 := hI.2.2.1.2.1.1
                have hkE : kEq S S1 := hI.2.2.1.1
                have hM12 : nl + (cnt5 S.2.2.1 + S.2.1) = M ∧ M ≤ 12 := hI.2.2.2.2.2.2
                refine V_istore hC dL_law_296 (L' := [(8, .int (nI fl)), (0, .ref (G.2.2 1)), (1, .int (nI time)), (2, .ref t), (3, .ref o), (4, .ref m), (5, .int (nI M)), (6, .int (nI k))]) (by decide) rfl ?_
                refine V_iconst hC dL_law_298 (v := 1) (by decide) ?_
                refine V_aload_n hC dL_law_299 3 rfl ?_
                refine V_bipush hC dL_law_300 (v := 80) (by decide) ?_
                refine V_calli hC (V_runV hC (rest := [.int 1]) [.int 80] (c_X9_draw l G t m bq lq wq e9 80 (by decide) (by decide) (by omega)) [0] rfl (by decide) q743 q744 q745 q19 q746 ⟨by decide, by decide, rfl⟩ ⟨by decide, by decide⟩ (ci := 10) rfl (mem_at 0 0 rfl rfl) rfl (Nat.le_of_ble_eq_true rfl) ⟨(by show 1100 * time + 500 + 60 * k + 36 + 0 ≤ 853861; omega), (by show 9000 * time + 3000 + 600 * k + 340 + 0 ≤ 6540115; omega)⟩ dL_law_302) (is := [0]) rfl [1, 2, 3, 4, 5, 6, 7, 8] (rs := [[(bq, .inl (G.2.1 9, 4, .inr (.inr (.inr (.inr (rfN 4 bE))))))], famW 4 (fun ι => iaP G (bE ι) 5 (bl ι)), [(lq, .inl (G.2.1 9, n, .inr (.inr (.inr (.inr (rfN n lE))))))], famW n (fun ι => iaP G (lE ι) 2 (lx ι)), [(wq, .inl (G.2.1 9, q, .inr (.inr (.inr (.inr (rfN q wE))))))], Ww, Pm, Po]) rfl (by decide) (by decide) ?_
                rintro _ _ ⟨k66, hk66, rfl, rfl⟩
                refine V_iadd hC dL_law_305 ?_
                refine V_eqi (y := nI (1 + k66)) (nI_add 1 k66) ?_
                refine V_istore hC dL_law_306 (L' := [(9, .int (nI (1 + k66))), (8, .int (nI fl)), (0, .ref (G.2.2 1)), (1, .int (nI time)), (2, .ref t), (3, .ref o), (4, .ref m), (5, .int (nI M)), (6, .int (nI k))]) (by decide) rfl ?_
                refine V_aload hC dL_law_308 6 rfl ?_
                refine V_iconst hC dL_law_310 (v := 5) (by decide) ?_
                obtain ⟨fshm67, hm67⟩ := isW_mem hWm
                refine V_calli hC (V_runV hC (rest := []) [.int 5] (w_many l G m 4 bz n f g S nl lz Pm 5 hWm hok.1 (by decide)) [7] rfl (by decide) q587 q588 q589 q20 q590 ⟨by decide, by decide, rfl⟩ ⟨by decide, by decide⟩ (ci := 9) rfl (mem_pc 7 rfl hm67) rfl (Nat.le_of_ble_eq_true rfl) ⟨(by show 1100 * time + 500 + 60 * k + 36 + 0 ≤ 853861; omega), (by show 9000 * time + 3000 + 600 * k + 340 + 0 ≤ 6540115; omega)⟩ dL_law_311) (is := [7]) rfl [0, 1, 2, 3, 4, 5, 6, 8] (rs := [[(t, .inr (10, [.ref m, .ref (G.2.2 1), .int (nI (e9 + 1)), .ref bq, .ref lq, .ref wq]))], [(bq, .inl (G.2.1 9, 4, .inr (.inr (.inr (.inr (rfN 4 bE))))))], famW 4 (fun ι => iaP G (bE ι) 5 (bl ι)), [(lq, .inl (G.2.1 9, n, .inr (.inr (.inr (.inr (rfN n lE))))))], famW n (fun ι => iaP G (lE ι) 2 (lx ι)), [(wq, .inl (G.2.1 9, q, .inr (.inr (.inr (.inr (rfN q wE))))))], Ww, Po]) rfl (by decide) (by decide) ?_
                rintro _ _ ⟨P968, ⟨rfl, hW68⟩, rfl⟩
                refine V_eqi (y := S.1 1) (rfl) ?_
                refine V_sipush hC dL_law_314 (v := 900) (by decide) ?_
                refine V_icmp_ge hC dL_law_317 (tgt := 338) (by decide) (fun h69 => ?_) (fun h69 => ?_)
                · refine V_loc (L' := [(0, .ref (G.2.2 1)), (1, .int (nI time)), (2, .ref t), (3, .ref o), (4, .ref m), (5, .int (nI M)), (6, .int (nI k)), (8, .int (nI fl))]) [2, 3, 4, 5, 6, 7, 8, 1] rfl ?_
                  refine V_sub [1, 2, 3, 4, 5, 6, 7, 0, 8] (by decide) (u := [[(t, .inr (10, [.ref m, .ref (G.2.2 1), .int (nI (e9 + 1)), .ref bq, .ref lq, .ref wq]))], [(bq, .inl (G.2.1 9, 4, .inr (.inr (.inr (.inr (rfN 4 bE))))))], famW 4 (fun ι => iaP G (bE ι) 5 (bl ι)), [(lq, .inl (G.2.1 9, n, .inr (.inr (.inr (.inr (rfN n lE))))))], famW n (fun ι => iaP G (lE ι) 2 (lx ι)), [(wq, .inl (G.2.1 9, q, .inr (.inr (.inr (.inr (rfN q wE))))))], Ww, P968, Po]) rfl ?_
                  refine V_widen (show 1100 * time + 500 + 60 * k + 36 ≤ 1100 * time + 500 + 60 * k + 38 by omega) (show 9000 * time + 3000 + 600 * k + 340 ≤ 9000 * time + 3000 + 600 * k + 352 by omega) ?_
                  exact J338 _ _ _ _ _ _ _ _ _ _ _ _ _ _ _ _ _ _ _ _ _ _ fl (by omega) hI hW68 hWo hq hwA hfl
                · have h900 : S.1 1 < nI 900 := z32_nle h69
                  refine V_aload hC dL_law_320 6 rfl ?_
                  refine V_iload hC dL_law_322 0 rfl ?_
                  obtain ⟨fshm70, hm70⟩ := isW_mem hW68
                  refine V_calli hC (V_runV hC (rest := []) [.int (nI (1 + k66))] (w_coal l hl0 G m 4 bz n f g S nl lz P968 (nI (1 + k66)) hW68 hok.1 (lw_in hI (by omega) (by omega) h900).1) [0] rfl (by decide) q481 q482 q483 q20 q484 ⟨by decide, by decide, rfl⟩ ⟨by decide, by decide⟩ (ci := 9) rfl (mem_pc 0 rfl hm70) rfl (Nat.le_of_ble_eq_true rfl) ⟨(by show 1100 * time + 500 + 60 * k + 36 + 1 ≤ 853861; omega), (by show 9000 * time + 3000 + 600 * k + 340 + 6 ≤ 6540115; omega)⟩ dL_law_324) (is := [0]) rfl [1, 2, 3, 4, 5, 6, 7, 8] (rs := [[(t, .inr (10, [.ref m, .ref (G.2.2 1), .int (nI (e9 + 1)), .ref bq, .ref lq, .ref wq]))], [(bq, .inl (G.2.1 9, 4, .inr (.inr (.inr (.inr (rfN 4 bE))))))], famW 4 (fun ι => iaP G (bE ι) 5 (bl ι)), [(lq, .inl (G.2.1 9, n, .inr (.inr (.inr (.inr (rfN n lE))))))], famW n (fun ι => iaP G (lE ι) 2 (lx ι)), [(wq, .inl (G.2.1 9, q, .inr (.inr (.inr (.inr (rfN q wE))))))], Ww, Po]) rfl (by decide) (by decide) ?_
                  rintro _ _ ⟨P971, ⟨rfl, hW71⟩, rfl⟩
                  refine V_aload_n hC dL_law_327 5 rfl ?_
                  refine V_iload hC dL_law_328 0 rfl ?_
                  obtain ⟨fshm72, hm72⟩ := isW_mem hWo
                  refine V_calli hC (V_runV hC (rest := [.int (S.1 1 + (nI (1 + k66)))]) [.int (nI (1 + k66))] (w_coal l hl0 G o 4 bz1 n f1 g1 S1 nl lz1 Po (nI (1 + k66)) hWo hok.2 (lw_in hI (by omega) (by omega) h900).2) [8] rfl (by decide) q481 q482 q483 q20 q484 ⟨by decide, by decide, rfl⟩ ⟨by decide, by decide⟩ (ci := 9) rfl (mem_pc 8 rfl hm72) rfl (Nat.le_of_ble_eq_true rfl) ⟨(by show 1100 * time + 500 + 60 * k + 36 + 1 + 1 ≤ 853861; omega), (by show 9000 * time + 3000 + 600 * k + 340 + 6 + 6 ≤ 6540115; omega)⟩ dL_law_330) (is := [8]) rfl [0, 1, 2, 3, 4, 5, 6, 7] (rs := [P971, [(t, .inr (10, [.ref m, .ref (G.2.2 1), .int (nI (e9 + 1)), .ref bq, .ref lq, .ref wq]))], [(bq, .inl (G.2.1 9, 4, .inr (.inr (.inr (.inr (rfN 4 bE))))))], famW 4 (fun ι => iaP G (bE ι) 5 (bl ι)), [(lq, .inl (G.2.1 9, n, .inr (.inr (.inr (.inr (rfN n lE))))))], famW n (fun ι => iaP G (lE ι) 2 (lx ι)), [(wq, .inl (G.2.1 9, q, .inr (.inr (.inr (.inr (rfN q wE))))))], Ww]) rfl (by decide) (by decide) ?_
                  rintro _ _ ⟨P973, ⟨rfl, hW73⟩, rfl⟩
                  refine V_icmp_eqT hC dL_law_333 (tgt := 338) (by decide) (by rw [hkE.1 1 (by decide)]) ?_
                  refine V_loc (L' := [(0, .ref (G.2.2 1)), (1, .int (nI time)), (2, .ref t), (3, .ref o), (4, .ref m), (5, .int (nI M)), (6, .int (nI k)), (8, .int (nI fl))]) [2, 3, 4, 5, 6, 7, 8, 1] rfl ?_
                  refine V_sub [2, 3, 4, 5, 6, 7, 8, 1, 0] (by decide) (u := [[(t, .inr (10, [.ref m, .ref (G.2.2 1), .int (nI (e9 + 1)), .ref bq, .ref lq, .ref wq]))], [(bq, .inl (G.2.1 9, 4, .inr (.inr (.inr (.inr (rfN 4 bE))))))], famW 4 (fun ι => iaP G (bE ι) 5 (bl ι)), [(lq, .inl (G.2.1 9, n, .inr (.inr (.inr (.inr (rfN n lE))))))], famW n (fun ι => iaP G (lE ι) 2 (lx ι)), [(wq, .inl (G.2.1 9, q, .inr (.inr (.inr (.inr (rfN q wE))))))], Ww, P971, P973]) rfl ?_
                  refine V_widen (show 1100 * time + 500 + 60 * k + 36 + 1 + 1 ≤ 1100 * time + 500 + 60 * k + 38 by omega) (show 9000 * time + 3000 + 600 * k + 340 + 6 + 6 ≤ 9000 * time + 3000 + 600 * k + 352 by omega) ?_
                  exact J338 _ _ _ _ _ _ _ _ _ _ _ _ _ _ _ _ _ _ _ _ _ _ fl (by omega) (lw_coal hI (by omega) h900) hW71 hW73 hq hwA hfl
              have J277 : ∀ (e9 n q lq wq M : Nat) (lE wE : Nat → Nat) (lx : Nat → Nat → Int32) (f g f1 g1 : Nat → Int32) (p : Nat → Nat) (S S1 : KS) (nl : Nat) (lz lz1 : Nat → LV) (Ww Pm Po : va_W) (hd : e9 ≤ 66 + 9 * k + 4) (hI : lwI bz bz1 bl n f g f1 g1 p lx S S1 nl lz lz1 M) (hWm : isW G m 4 bz n f g S nl lz Pm) (hWo : isW G o 4 bz1 n f1 g1 S1 nl lz1 Po) (hq : q = S.2.1) (hwA : ∀ i, i < q → iaIn G Ww (wE i)), V pP l eE room_1 sS mM aA bB tT cC QQ G AA 22 [[(t, .inr (10, [.ref m, .ref (G.2.2 1), .int (nI e9), .ref bq, .ref lq, .ref wq]))], [(bq, .inl (G.2.1 9, 4, .inr (.inr (.inr (.inr (rfN 4 bE))))))], famW 4 (fun ι => iaP G (bE ι) 5 (bl ι)), [(lq, .inl (G.2.1 9, n, .inr (.inr (.inr (.inr (rfN n lE))))))], famW n (fun ι => iaP G (lE ι) 2 (lx ι)), [(wq, .inl (G.2.1 9, q, .inr (.inr (.inr (.inr (rfN q wE))))))], Ww, Pm, Po] (1100 * time + 500 + 60 * k + 36) (9000 * time + 3000 + 600 * k + 340) 277 [(0, .ref (G.2.2 1)), (1, .int (nI time)), (2, .ref t), (3, .ref o), (4, .ref m), (5, .int (nI M)), (6, .int (nI k))] [] := by
                intro e9 n q lq wq M lE wE lx f g f1 g1 p S S1 nl lz lz1 Ww Pm Po hd hI hWm hWo hq hwA
                have hok := lw_ok hI
                have hS3 : S.2.1 ≤ 3 := hI.2.2.1.2.1.1
                have hkE : kEq S S1 := hI.2.2.1.1
                have hM12 : nl + (cnt5 S.2.2.1 + S.2.1) = M ∧ M ≤ 12 := hI.2.2.2.2.2.2
                refine V_aload_n hC dL_law_277 2 rfl ?_
                refine V_iconst hC dL_law_278 (v := 4) (by decide) ?_
                refine V_calli hC (V_runV hC (rest := []) [.int 4] (c_X9_draw l G t m bq lq wq e9 4 (by decide) (by decide) (by omega)) [0] rfl (by decide) q743 q744 q745 q19 q746 ⟨by decide, by decide, rfl⟩ ⟨by decide, by decide⟩ (ci := 10) rfl (mem_at 0 0 rfl rfl) rfl (Nat.le_of_ble_eq_true rfl) ⟨(by show 1100 * time + 500 + 60 * k + 36 + 0 ≤ 853861; omega), (by show 9000 * time + 3000 + 600 * k + 340 + 0 ≤ 6540115; omega)⟩ dL_law_279) (is := [0]) rfl [1, 2, 3, 4, 5, 6, 7, 8] (rs := [[(bq, .inl (G.2.1 9, 4, .inr (.inr (.inr (.inr (rfN 4 bE))))))], famW 4 (fun ι => iaP G (bE ι) 5 (bl ι)), [(lq, .inl (G.2.1 9, n, .inr (.inr (.inr (.inr (rfN n lE))))))], famW n (fun ι => iaP G (lE ι) 2 (lx ι)), [(wq, .inl (G.2.1 9, q, .inr (.inr (.inr (.inr (rfN q wE))))))], Ww, Pm, Po]) rfl (by decide) (by decide) ?_
                rintro _ _ ⟨k74, hk74, rfl, rfl⟩
                refine V_if_ne hC dL_law_282 (tgt := 294) (by decide) (fun h75 => ?_) (fun h75 => ?_)
                · refine V_bipush hC dL_law_294 (v := 9) (by decide) ?_
                  refine V_eqi (y := nI 9) (rfl) ?_
                  refine V_widen (show 1100 * time + 500 + 60 * k + 36 ≤ 1100 * time + 500 + 60 * k + 36 by omega) (show 9000 * time + 3000 + 600 * k + 340 ≤ 9000 * time + 3000 + 600 * k + 340 by omega) ?_
                  exact J296 _ _ _ _ _ _ _ _ _ _ _ _ _ _ _ _ _ _ _ _ _ _ 9 (by omega) hI hWm hWo hq hwA (by omega)
                · refine V_aload_n hC dL_law_285 2 rfl ?_
                  refine V_bipush hC dL_law_286 (v := 10) (by decide) ?_
                  refine V_calli hC (V_runV hC (rest := []) [.int 10] (c_X9_draw l G t m bq lq wq (e9 + 1) 10 (by decide) (by decide) (by omega)) [0] rfl (by decide) q743 q744 q745 q19 q746 ⟨by decide, by decide, rfl⟩ ⟨by decide, by decide⟩ (ci := 10) rfl (mem_at 0 0 rfl rfl) rfl (Nat.le_of_ble_eq_true rfl) ⟨(by show 1100 * time + 500 + 60 * k + 36 + 0 ≤ 853861; omega), (by show 9000 * time + 3000 + 600 * k + 340 + 0 ≤ 6540115; omega)⟩ dL_law_288) (is := [0]) rfl [1, 2, 3, 4, 5, 6, 7, 8] (rs := [[(bq, .inl (G.2.1 9, 4, .inr (.inr (.inr (.inr (rfN 4 bE))))))], famW 4 (fun ι => iaP G (bE ι) 5 (bl ι)), [(lq, .inl (G.2.1 9, n, .inr (.inr (.inr (.inr (rfN n lE))))))], famW n (fun ι => iaP G (lE ι) 2 (lx ι)), [(wq, .inl (G.2.1 9, q, .inr (.inr (.inr (.inr (rfN q wE))))))], Ww, Pm, Po]) rfl (by decide) (by decide) ?_
                  rintro _ _ ⟨k76, hk76, rfl, rfl⟩
                  refine V_goto hC dL_law_291 (tgt := 296) (by decide) ?_
                  refine V_widen (show 1100 * time + 500 + 60 * k + 36 ≤ 1100 * time + 500 + 60 * k + 36 by omega) (show 9000 * time + 3000 + 600 * k + 340 ≤ 9000 * time + 3000 + 600 * k + 340 by omega) ?_
                  exact J296 _ _ _ _ _ _ _ _ _ _ _ _ _ _ _ _ _ _ _ _ _ _ k76 (by omega) hI hWm hWo hq hwA (by omega)
              have hly := hI.1.1
              obtain ⟨hn, hf, hgp, hp⟩ := hI.1.1
              have hb9 := nsm_b hp
              have hlx := hI.1.2.2.1
              refine V_iconst hC dL_law_64 (v := 3) (by decide) ?_
              refine V_aload_n hC dL_law_65 2 rfl ?_
              refine V_bipush hC dL_law_66 (v := 7) (by decide) ?_
              refine V_calli hC (V_runV hC (rest := [.int 3]) [.int 7] (c_X9_draw l G t m bq lq wq e9 7 (by decide) (by decide) (by omega)) [0] rfl (by decide) q743 q744 q745 q19 q746 ⟨by decide, by decide, rfl⟩ ⟨by decide, by decide⟩ (ci := 10) rfl (mem_at 0 0 rfl rfl) rfl (Nat.le_of_ble_eq_true rfl) ⟨(by show 1100 * time + 500 + 60 * k + 0 ≤ 853861; omega), (by show 9000 * time + 3000 + 600 * k + 0 ≤ 6540115; omega)⟩ dL_law_68) (is := [0]) rfl [1, 2, 3, 4, 5, 6, 7, 8] (rs := [[(bq, .inl (G.2.1 9, 4, .inr (.inr (.inr (.inr (rfN 4 bE))))))], famW 4 (fun ι => iaP G (bE ι) 5 (bl ι)), [(lq, .inl (G.2.1 9, n, .inr (.inr (.inr (.inr (rfN n lE))))))], famW n (fun ι => iaP G (lE ι) 2 (lx ι)), [(wq, .inl (G.2.1 9, q, .inr (.inr (.inr (.inr (rfN q wE))))))], Ww, Pm, Po]) rfl (by decide) (by decide) ?_
              rintro _ _ ⟨k77, hk77, rfl, rfl⟩
              refine V_iadd hC dL_law_71 ?_
              refine V_eqi (y := nI (3 + k77)) (nI_add 3 k77) ?_
              obtain ⟨c, hc3, hc9, hce⟩ : ∃ c : Nat, 3 ≤ c ∧ c ≤ 9 ∧ 3 + k77 = c := ⟨3 + k77, by omega, by omega, rfl⟩
              have hc1 : 1 ≤ c := by omega
              refine V_eqi (y := nI c) (by rw [hce]) ?_
              refine V_istore hC dL_law_72 (L' := [(7, .int (nI c)), (0, .ref (G.2.2 1)), (1, .int (nI time)), (2, .ref t), (3, .ref o), (4, .ref m), (5, .int (nI M)), (6, .int (nI k))]) (by decide) rfl ?_
              refine V_aload_n hC dL_law_74 3 rfl ?_
              refine V_calli hC (V_runV hC (rest := []) [] (c_X9_pile l G t m bq lq wq (e9 + 1) n lE lx g hn (fun j hj => (hlx j hj).2)) [0, 3, 4] rfl (by decide) q761 q762 q763 q19 q764 ⟨by decide, by decide, rfl⟩ ⟨by decide, by decide⟩ (ci := 10) rfl (mem_at 0 0 rfl rfl) rfl (Nat.le_of_ble_eq_true rfl) ⟨(by show 1100 * time + 500 + 60 * k + 0 ≤ 853861; omega), (by show 9000 * time + 3000 + 600 * k + 0 ≤ 6540115; omega)⟩ dL_law_75) (is := [0, 3, 4]) rfl [1, 2, 5, 6, 7, 8] (rs := [[(bq, .inl (G.2.1 9, 4, .inr (.inr (.inr (.inr (rfN 4 bE))))))], famW 4 (fun ι => iaP G (bE ι) 5 (bl ι)), [(wq, .inl (G.2.1 9, q, .inr (.inr (.inr (.inr (rfN q wE))))))], Ww, Pm, Po]) rfl (by decide) (by decide) ?_
              rintro _ _ ⟨rfl, rfl⟩
              refine V_iload hC dL_law_78 0 rfl ?_
              refine V_icmp_lt hC dL_law_80 (tgt := 277) (by decide) (fun h78 => ?_) (fun h78 => ?_)
              · refine V_loc (L' := [(0, .ref (G.2.2 1)), (1, .int (nI time)), (2, .ref t), (3, .ref o), (4, .ref m), (5, .int (nI M)), (6, .int (nI k))]) [1, 2, 3, 4, 5, 6, 7] rfl ?_
                refine V_sub [0, 3, 4, 1, 2, 5, 6, 7, 8] (by decide) (u := [[(t, .inr (10, [.ref m, .ref (G.2.2 1), .int (nI (e9 + 1)), .ref bq, .ref lq, .ref wq]))], [(bq, .inl (G.2.1 9, 4, .inr (.inr (.inr (.inr (rfN 4 bE))))))], famW 4 (fun ι => iaP G (bE ι) 5 (bl ι)), [(lq, .inl (G.2.1 9, n, .inr (.inr (.inr (.inr (rfN n lE))))))], famW n (fun ι => iaP G (lE ι) 2 (lx ι)), [(wq, .inl (G.2.1 9, q, .inr (.inr (.inr (.inr (rfN q wE))))))], Ww, Pm, Po]) rfl ?_
                refine V_widen (show 1100 * time + 500 + 60 * k ≤ 1100 * time + 500 + 60 * k + 36 by omega) (show 9000 * time + 3000 + 600 * k ≤ 9000 * time + 3000 + 600 * k + 340 by omega) ?_
                exact J277 _ _ _ _ _ _ _ _ _ _ _ _ _ _ _ _ _ _ _ _ _ _ (by omega) hI hWm hWo hq hwA
              · have hsm : ¬ sm g n < nI c := h78
                have hcP : c ≤ nsm p n := by have h7 := h78; rw [sm_nat hgp] at h7; exact Nat.le_of_not_lt (fun q7 => h7 (nI_lt q7 (by omega)))
                refine V_aload_n hC dL_law_83 3 rfl ?_
                refine V_get hC dL_law_84 inAX9 (mem_at 0 0 rfl rfl) rfl 5 (by decide) q729 rfl (v := .ref wq) rfl ?_
                refine V_alen hC dL_law_87 9 rfl (mem_at 5 0 rfl rfl) (v := nI q) (rfl) ?_
                refine V_iconst hC dL_law_88 (v := 3) (by decide) ?_
                refine V_icmp_ge hC dL_law_89 (tgt := 277) (by decide) (fun h79 => ?_) (fun h79 => ?_)
                · refine V_loc (L' := [(0, .ref (G.2.2 1)), (1, .int (nI time)), (2, .ref t), (3, .ref o), (4, .ref m), (5, .int (nI M)), (6, .int (nI k))]) [1, 2, 3, 4, 5, 6, 7] rfl ?_
                  refine V_sub [0, 3, 4, 1, 2, 5, 6, 7, 8] (by decide) (u := [[(t, .inr (10, [.ref m, .ref (G.2.2 1), .int (nI (e9 + 1)), .ref bq, .ref lq, .ref wq]))], [(bq, .inl (G.2.1 9, 4, .inr (.inr (.inr (.inr (rfN 4 bE))))))], famW 4 (fun ι => iaP G (bE ι) 5 (bl ι)), [(lq, .inl (G.2.1 9, n, .inr (.inr (.inr (.inr (rfN n lE))))))], famW n (fun ι => iaP G (lE ι) 2 (lx ι)), [(wq, .inl (G.2.1 9, q, .inr (.inr (.inr (.inr (rfN q wE))))))], Ww, Pm, Po]) rfl ?_
                  refine V_widen (show 1100 * time + 500 + 60 * k ≤ 1100 * time + 500 + 60 * k + 36 by omega) (show 9000 * time + 3000 + 600 * k ≤ 9000 * time + 3000 + 600 * k + 340 by omega) ?_
                  exact J277 _ _ _ _ _ _ _ _ _ _ _ _ _ _ _ _ _ _ _ _ _ _ (by omega) hI hWm hWo hq hwA
                · have hq3 : S.2.1 < 3 := by have := nnle (a := 3) (b := q) h79 (by omega) (by omega); omega
                  refine V_iload hC dL_law_92 6 rfl ?_
                  refine V_bipush hC dL_law_94 (v := 12) (by decide) ?_
                  refine V_icmp_ge hC dL_law_96 (tgt := 277) (by decide) (fun h80 => ?_) (fun h80 => ?_)
                  · refine V_loc (L' := [(0, .ref (G.2.2 1)), (1, .int (nI time)), (2, .ref t), (3, .ref o), (4, .ref m), (5, .int (nI M)), (6, .int (nI k))]) [1, 2, 3, 4, 5, 6, 7] rfl ?_
                    refine V_sub [0, 3, 4, 1, 2, 5, 6, 7, 8] (by decide) (u := [[(t, .inr (10, [.ref m, .ref (G.2.2 1), .int (nI (e9 + 1)), .ref bq, .ref lq, .ref wq]))], [(bq, .inl (G.2.1 9, 4, .inr (.inr (.inr (.inr (rfN 4 bE))))))], famW 4 (fun ι => iaP G (bE ι) 5 (bl ι)), [(lq, .inl (G.2.1 9, n, .inr (.inr (.inr (.inr (rfN n lE))))))], famW n (fun ι => iaP G (lE ι) 2 (lx ι)), [(wq, .inl (G.2.1 9, q, .inr (.inr (.inr (.inr (rfN q wE))))))], Ww, Pm, Po]) rfl ?_
                    refine V_widen (show 1100 * time + 500 + 60 * k ≤ 1100 * time + 500 + 60 * k + 36 by omega) (show 9000 * time + 3000 + 600 * k ≤ 9000 * time + 3000 + 600 * k + 340 by omega) ?_
                    exact J277 _ _ _ _ _ _ _ _ _ _ _ _ _ _ _ _ _ _ _ _ _ _ (by omega) hI hWm hWo hq hwA
                  · have hM1 : M < 12 := nnle (a := 12) (b := M) h80 (by omega) (by omega)
                    refine V_aload hC dL_law_99 5 rfl ?_
                    refine V_iload hC dL_law_101 0 rfl ?_
                    obtain ⟨fshm81, hm81⟩ := isW_mem hWm
                    refine V_calli hC (V_runV hC (rest := []) [.int (nI c)] (w_bestCharge l G m 4 bz n f g S nl lz Pm c hWm hok.1 hc1 hc9 hsm) [7] rfl (by decide) q591 q592 q593 q20 q594 ⟨by decide, by decide, rfl⟩ ⟨by decide, by decide⟩ (ci := 9) rfl (mem_pc 7 rfl hm81) rfl (Nat.le_of_ble_eq_true rfl) ⟨(by show 1100 * time + 500 + 60 * k + 0 ≤ 853861; omega), (by show 9000 * time + 3000 + 600 * k + 0 ≤ 6540115; omega)⟩ dL_law_103) (is := [7]) rfl [0, 1, 2, 3, 4, 5, 6, 8] (rs := [[(t, .inr (10, [.ref m, .ref (G.2.2 1), .int (nI (e9 + 1)), .ref bq, .ref lq, .ref wq]))], [(lq, .inl (G.2.1 9, n, .inr (.inr (.inr (.inr (rfN n lE))))))], famW n (fun ι => iaP G (lE ι) 2 (lx ι)), [(bq, .inl (G.2.1 9, 4, .inr (.inr (.inr (.inr (rfN 4 bE))))))], famW 4 (fun ι => iaP G (bE ι) 5 (bl ι)), [(wq, .inl (G.2.1 9, q, .inr (.inr (.inr (.inr (rfN q wE))))))], Ww, Po]) rfl (by decide) (by decide) ?_
                    rintro bst _ ⟨P982, ⟨h982, cm982, hb82, hW82⟩, rfl⟩
                    refine V_istore hC dL_law_106 (L' := [(8, .int bst), (7, .int (nI c)), (0, .ref (G.2.2 1)), (1, .int (nI time)), (2, .ref t), (3, .ref o), (4, .ref m), (5, .int (nI M)), (6, .int (nI k))]) (by decide) rfl ?_
                    refine V_iload hC dL_law_108 0 rfl ?_
                    refine V_if_ge hC dL_law_110 (tgt := 117) (by decide) (fun h83 => ?_) (fun h83 => ?_)
                    · obtain ⟨o1, t1, u1, ho, htt, hu, hRT, hbe⟩ := bst_pos hb82 (z32_nlt h83)
                      subst hbe
                      refine V_aload_n hC dL_law_117 4 rfl ?_
                      refine V_iconst hC dL_law_118 (v := 2) (by decide) ?_
                      refine V_calli hC (V_runV hC (rest := []) [.int 2] (c_X9_draw l G t m bq lq wq (e9 + 1) 2 (by decide) (by decide) (by omega)) [1] rfl (by decide) q743 q744 q745 q19 q746 ⟨by decide, by decide, rfl⟩ ⟨by decide, by decide⟩ (ci := 10) rfl (mem_at 1 0 rfl rfl) rfl (Nat.le_of_ble_eq_true rfl) ⟨(by show 1100 * time + 500 + 60 * k + 0 ≤ 853861; omega), (by show 9000 * time + 3000 + 600 * k + 0 ≤ 6540115; omega)⟩ dL_law_119) (is := [1]) rfl [0, 2, 3, 4, 5, 6, 7, 8] (rs := [P982, [(lq, .inl (G.2.1 9, n, .inr (.inr (.inr (.inr (rfN n lE))))))], famW n (fun ι => iaP G (lE ι) 2 (lx ι)), [(bq, .inl (G.2.1 9, 4, .inr (.inr (.inr (.inr (rfN 4 bE))))))], famW 4 (fun ι => iaP G (bE ι) 5 (bl ι)), [(wq, .inl (G.2.1 9, q, .inr (.inr (.inr (.inr (rfN q wE))))))], Ww, Po]) rfl (by decide) (by decide) ?_
                      rintro _ _ ⟨k84, hk84, rfl, rfl⟩
                      refine V_istore hC dL_law_122 (L' := [(9, .int (nI k84)), (8, .int (nI (100 * o1 + 10 * t1 + u1))), (7, .int (nI c)), (0, .ref (G.2.2 1)), (1, .int (nI time)), (2, .ref t), (3, .ref o), (4, .ref m), (5, .int (nI M)), (6, .int (nI k))]) (by decide) rfl ?_
                      refine V_iload hC dL_law_124 1 rfl ?_
                      refine V_if_geT hC dL_law_126 (tgt := 137) (by decide) (nI_pos' (by omega)) ?_
                      refine V_iconst hC dL_law_137 (v := 3) (by decide) ?_
                      refine V_iload hC dL_law_138 1 rfl ?_
                      refine V_bipush hC dL_law_140 (v := 100) (by decide) ?_
                      refine V_idiv hC dL_law_142 (by decide) ?_
                      refine V_eqi (y := nI o1) ((pk_div (d := 100) (by omega) (by omega) (by omega)).trans (congrArg nI (by omega))) ?_
                      refine V_iload hC dL_law_143 0 rfl ?_
                      refine V_iadd hC dL_law_145 ?_
                      refine V_eqi (y := nI (o1 + k84)) (nI_add o1 k84) ?_
                      refine V_mmin hC q832 q424 q35 q425 (by decide) (Nat.le_of_ble_eq_true rfl) (by show 1100 * time + 500 + 60 * k ≤ 853861; omega) (by show 9000 * time + 3000 + 600 * k ≤ 6540115; omega) dL_law_146 ?_
                      refine V_eqi (y := nI (min 3 (o1 + k84))) (mn_nI (a := 3) (b := o1 + k84)) ?_
                      refine V_istore hC dL_law_149 (L' := [(10, .int (nI (min 3 (o1 + k84)))), (9, .int (nI k84)), (8, .int (nI (100 * o1 + 10 * t1 + u1))), (7, .int (nI c)), (0, .ref (G.2.2 1)), (1, .int (nI time)), (2, .ref t), (3, .ref o), (4, .ref m), (5, .int (nI M)), (6, .int (nI k))]) (by decide) rfl ?_
                      refine V_iload hC dL_law_151 2 rfl ?_
                      refine V_if_geT hC dL_law_153 (tgt := 164) (by decide) (nI_pos' (by omega)) ?_
                      refine V_iload hC dL_law_164 2 rfl ?_
                      refine V_bipush hC dL_law_166 (v := 10) (by decide) ?_
                      refine V_idiv hC dL_law_168 (by decide) ?_
                      refine V_eqi (y := nI (10 * o1 + t1)) ((pk_div (d := 10) (by omega) (by omega) (by omega)).trans (congrArg nI (by omega))) ?_
                      refine V_bipush hC dL_law_169 (v := 10) (by decide) ?_
                      refine V_irem hC dL_law_171 (by decide) ?_
                      refine V_eqi (y := nI t1) ((pk_rem (d := 10) (by omega) (by omega) (by omega)).trans (congrArg nI (by omega))) ?_
                      refine V_istore hC dL_law_172 (L' := [(11, .int (nI t1)), (10, .int (nI (min 3 (o1 + k84)))), (9, .int (nI k84)), (8, .int (nI (100 * o1 + 10 * t1 + u1))), (7, .int (nI c)), (0, .ref (G.2.2 1)), (1, .int (nI time)), (2, .ref t), (3, .ref o), (4, .ref m), (5, .int (nI M)), (6, .int (nI k))]) (by decide) rfl ?_
                      refine V_iload hC dL_law_174 3 rfl ?_
                      refine V_if_geT hC dL_law_176 (tgt := 187) (by decide) (nI_pos' (by omega)) ?_
                      refine V_iload hC dL_law_187 3 rfl ?_
                      refine V_bipush hC dL_law_189 (v := 10) (by decide) ?_
                      refine V_irem hC dL_law_191 (by decide) ?_
                      refine V_eqi (y := nI u1) ((pk_rem (d := 10) (by omega) (by omega) (by omega)).trans (congrArg nI (by omega))) ?_
                      refine V_istore hC dL_law_192 (L' := [(12, .int (nI u1)), (11, .int (nI t1)), (10, .int (nI (min 3 (o1 + k84)))), (9, .int (nI k84)), (8, .int (nI (100 * o1 + 10 * t1 + u1))), (7, .int (nI c)), (0, .ref (G.2.2 1)), (1, .int (nI time)), (2, .ref t), (3, .ref o), (4, .ref m), (5, .int (nI M)), (6, .int (nI k))]) (by decide) rfl ?_
                      have hA3 : min 3 (o1 + k84) ≤ 3 := by omega
                      have hB3 : t1 ≤ 3 := by omega
                      have hD3 : u1 ≤ 3 := by omega
                      have hch : chOk (nI c) (nI (min 3 (o1 + k84))) (nI t1) (nI u1) := ⟨inR_nI1 (K := 1) (M := 9) hc1 hc9, inR_nI (M := 3) hA3, inR_nI (M := 3) hB3, inR_nI (M := 3) hD3⟩
                      have hsm1 : ¬ sm g1 n < nI c := by rw [← sm_c (fun j hj => (hI.1.2.2.2 j hj).2)]; exact hsm
                      have hq31 : S1.2.1 < 3 := by rw [← hkE.2.1]; exact hq3
                      refine V_aload_n hC dL_law_194 9 rfl ?_
                      refine V_iload hC dL_law_195 5 rfl ?_
                      refine V_iload hC dL_law_197 2 rfl ?_
                      refine V_iload hC dL_law_199 1 rfl ?_
                      refine V_iload hC dL_law_201 0 rfl ?_
                      obtain ⟨fshm85, hm85⟩ := isW_mem hWo
                      refine V_calli hC (V_runV hC (rest := []) [.int (nI c), .int (nI (min 3 (o1 + k84))), .int (nI t1), .int (nI u1)] (w_charge l hl0 G o 4 bz1 n f1 g1 S1 nl lz1 Po c (nI (min 3 (o1 + k84))) (nI t1) (nI u1) hWo hok.2 hc9 hch hsm1 hq31) [8] rfl (by decide) q315 q316 q317 q20 q318 ⟨by decide, by decide, rfl⟩ ⟨by decide, by decide⟩ (ci := 9) rfl (mem_pc 8 rfl hm85) rfl (Nat.le_of_ble_eq_true rfl) ⟨(by show 1100 * time + 500 + 60 * k + 5 ≤ 853861; omega), (by show 9000 * time + 3000 + 600 * k + 30 ≤ 6540115; omega)⟩ dL_law_203) (is := [8]) rfl [0, 1, 2, 3, 4, 5, 6, 7] (rs := [[(t, .inr (10, [.ref m, .ref (G.2.2 1), .int (nI ((e9 + 1) + 1)), .ref bq, .ref lq, .ref wq]))], P982, [(lq, .inl (G.2.1 9, n, .inr (.inr (.inr (.inr (rfN n lE))))))], famW n (fun ι => iaP G (lE ι) 2 (lx ι)), [(bq, .inl (G.2.1 9, 4, .inr (.inr (.inr (.inr (rfN 4 bE))))))], famW 4 (fun ι => iaP G (bE ι) 5 (bl ι)), [(wq, .inl (G.2.1 9, q, .inr (.inr (.inr (.inr (rfN q wE))))))], Ww]) rfl (by decide) (by decide) ?_
                      rintro _ _ ⟨P986, ⟨h986, cm986, rfl, hW86⟩, rfl⟩
                      refine V_pop hC dL_law_206 rfl ?_
                      refine V_aload_n hC dL_law_207 8 rfl ?_
                      refine V_iload hC dL_law_208 5 rfl ?_
                      refine V_iload hC dL_law_210 2 rfl ?_
                      refine V_iload hC dL_law_212 1 rfl ?_
                      refine V_iload hC dL_law_214 0 rfl ?_
                      refine V_calli hC (V_runV hC (rest := []) [.int (nI c), .int (nI (min 3 (o1 + k84))), .int (nI t1), .int (nI u1)] (c_X9_charge l hl0 G t m bq lq wq ((e9 + 1) + 1) bE bl lE lx q wE Ww bz n f g S nl lz P982 p c (nI (min 3 (o1 + k84))) (nI t1) (nI u1) hW82 hok.1 hI.2.1.2.1 hlx hly hI.1.2.1 hq hq3 hwA hc1 hc9 hcP hch) [1, 5, 6, 3, 4, 7, 8, 2] rfl (by decide) q765 q766 q767 q19 q768 ⟨by decide, by decide, rfl⟩ ⟨by decide, by decide⟩ (ci := 10) rfl (mem_at 1 0 rfl rfl) rfl (Nat.le_of_ble_eq_true rfl) ⟨(by show 1100 * time + 500 + 60 * k + 5 + 30 ≤ 853861; omega), (by show 9000 * time + 3000 + 600 * k + 30 + 300 ≤ 6540115; omega)⟩ dL_law_216) (is := [1, 5, 6, 3, 4, 7, 8, 2]) rfl [0] (rs := [P986]) rfl (by decide) (by decide) ?_
                      rintro _ _ ⟨h987, cm987, la287, wa287, lA287, wA287, lf287, Ww287, P987, rfl, hW87, hl987, hw987, rfl⟩
                      refine V_if_neT hC dL_law_219 (tgt := 224) (by decide) (by decide) ?_
                      obtain ⟨ht1, p9, hlw⟩ := lw_chg (a := min 3 (o1 + k84)) (b := t1) (d := u1) (h9 := h987) (cm9 := cm987) (h8 := h986) (cm8 := cm986) hI hc1 hc9 hcP hA3 hB3 hD3 hq3 hM1
                      have hI2 := hlw lf287 hl987
                      have hWo2 := hW86
                      rw [ht1] at hWo2
                      have hok2 := lw_ok hI2
                      refine V_iinc hC dL_law_224 (v := nI (M + 1)) (L' := [(5, .int (nI (M + 1))), (12, .int (nI u1)), (11, .int (nI t1)), (10, .int (nI (min 3 (o1 + k84)))), (9, .int (nI k84)), (8, .int (nI (100 * o1 + 10 * t1 + u1))), (7, .int (nI c)), (0, .ref (G.2.2 1)), (1, .int (nI time)), (2, .ref t), (3, .ref o), (4, .ref m), (6, .int (nI k))]) (j := 11) rfl (nI_1 _) (by decide) rfl ?_
                      refine V_aload_n hC dL_law_227 9 rfl ?_
                      refine V_get hC dL_law_228 inAX9 (mem_at 0 0 rfl rfl) rfl 5 (by decide) q729 rfl (v := .ref wa287) rfl ?_
                      refine V_alen hC dL_law_231 9 rfl (mem_at 5 0 rfl rfl) (v := nI (q + 1)) (rfl) ?_
                      refine V_iconst hC dL_law_232 (v := 1) (by decide) ?_
                      refine V_isub hC dL_law_233 ?_
                      refine V_eqi (y := nI q) (nI_pred q) ?_
                      refine V_istore hC dL_law_234 (L' := [(13, .int (nI q)), (5, .int (nI (M + 1))), (12, .int (nI u1)), (11, .int (nI t1)), (10, .int (nI (min 3 (o1 + k84)))), (9, .int (nI k84)), (8, .int (nI (100 * o1 + 10 * t1 + u1))), (7, .int (nI c)), (0, .ref (G.2.2 1)), (1, .int (nI time)), (2, .ref t), (3, .ref o), (4, .ref m), (6, .int (nI k))]) (by decide) rfl ?_
                      refine V_iload hC dL_law_236 6 rfl ?_
                      refine V_if_ltF hC dL_law_238 (tgt := 258) (by decide) (nI_pos (by omega)) ?_
                      refine V_iload hC dL_law_241 5 rfl ?_
                      refine V_if_ne hC dL_law_243 (tgt := 258) (by decide) (fun h88 => ?_) (fun h88 => ?_)
                      · refine V_iload hC dL_law_258 6 rfl ?_
                        refine V_if_geT hC dL_law_260 (tgt := 277) (by decide) (nI_pos' (by omega)) ?_
                        refine V_loc (L' := [(0, .ref (G.2.2 1)), (1, .int (nI time)), (2, .ref t), (3, .ref o), (4, .ref m), (5, .int (nI (M + 1))), (6, .int (nI k))]) [8, 9, 10, 11, 12, 1, 13] rfl ?_
                        refine V_widen (show 1100 * time + 500 + 60 * k + 5 + 30 ≤ 1100 * time + 500 + 60 * k + 36 by omega) (show 9000 * time + 3000 + 600 * k + 30 + 300 ≤ 9000 * time + 3000 + 600 * k + 340 by omega) ?_
                        exact J277 _ _ _ _ _ _ _ _ _ _ _ _ _ _ _ _ _ _ _ _ _ _ (by omega) hI2 hW87 hWo2 (congrArg (· + 1) hq) hw987
                      · have hk0 : k84 = 0 := nI_z h88 (by omega)
                        have hRT2 := hRT
                        rw [show o1 = min 3 (o1 + k84) by omega] at hRT2
                        refine V_aload hC dL_law_246 12 rfl ?_
                        refine V_iload hC dL_law_248 0 rfl ?_
                        refine V_iconst hC dL_law_250 (v := 3) (by decide) ?_
                        obtain ⟨fshm89, hm89⟩ := isW_mem hW87
                        refine V_calli hC (V_runV hC (rest := []) [.int (nI q), .int 3] (w_modulus l G m 4 bz ((tsF f g (fun j => nI (cutN p n c j)) (fun _ => 0) n).1) ((tsF f g (fun j => nI (cutN p n c j)) (fun _ => 0) n).2.1) ((tsF f g (fun j => nI (cutN p n c j)) (fun _ => 0) n).2.2.1) (S.1, S.2.1 + 1, S.2.2.1, va_up S.2.2.2.1 S.2.1 (cgV f g h987 n c (S.2.2.2.1 S.2.1) (cgF bz f g h987 cm987 n c (nI (min 3 (o1 + k84))) (nI t1) (nI u1))), S.2.2.2.2) nl lz P987 q 3 hW87 hok2.1 (by show q < S.2.1 + 1; omega) (by decide)) [7] rfl (by decide) q561 q562 q563 q20 q564 ⟨by decide, by decide, rfl⟩ ⟨by decide, by decide⟩ (ci := 9) rfl (mem_pc 7 rfl hm89) rfl (Nat.le_of_ble_eq_true rfl) ⟨(by show 1100 * time + 500 + 60 * k + 5 + 30 + 0 ≤ 853861; omega), (by show 9000 * time + 3000 + 600 * k + 30 + 300 + 0 ≤ 6540115; omega)⟩ dL_law_251) (is := [7]) rfl [0, 1, 2, 3, 4, 5, 6, 8] (rs := [[(t, .inr (10, [.ref m, .ref (G.2.2 1), .int (nI ((e9 + 1) + 1)), .ref bq, .ref la287, .ref wa287]))], [(bq, .inl (G.2.1 9, 4, .inr (.inr (.inr (.inr (rfN 4 bE))))))], famW 4 (fun ι => iaP G (bE ι) 5 (bl ι)), [(la287, .inl (G.2.1 9, (tsF f g (fun j => nI (cutN p n c j)) (fun _ => 0) n).1, .inr (.inr (.inr (.inr (rfN ((tsF f g (fun j => nI (cutN p n c j)) (fun _ => 0) n).1) lA287))))))], famW ((tsF f g (fun j => nI (cutN p n c j)) (fun _ => 0) n).1) (fun ι => iaP G (lA287 ι) 2 (lf287 ι)), [(wa287, .inl (G.2.1 9, (q + 1), .inr (.inr (.inr (.inr (rfN (q + 1) wA287))))))], Ww287, P986]) rfl (by decide) (by decide) ?_
                        rintro _ _ ⟨P990, ⟨rfl, hW90⟩, rfl⟩
                        refine V_iconst hC dL_law_254 (v := 1) (by decide) ?_
                        refine V_icmp_neF hC dL_law_255 (tgt := 275) (by decide) (by rw [hq]; exact (rt_mod (h8 := h982) (cm8 := cm982) hly hc1 hc9 hcP).mp hRT2) ?_
                        refine V_iload hC dL_law_258 6 rfl ?_
                        refine V_if_geT hC dL_law_260 (tgt := 277) (by decide) (nI_pos' (by omega)) ?_
                        refine V_loc (L' := [(0, .ref (G.2.2 1)), (1, .int (nI time)), (2, .ref t), (3, .ref o), (4, .ref m), (5, .int (nI (M + 1))), (6, .int (nI k))]) [8, 9, 10, 11, 12, 1, 13] rfl ?_
                        refine V_sub [1, 2, 3, 4, 5, 6, 7, 0, 8] (by decide) (u := [[(t, .inr (10, [.ref m, .ref (G.2.2 1), .int (nI ((e9 + 1) + 1)), .ref bq, .ref la287, .ref wa287]))], [(bq, .inl (G.2.1 9, 4, .inr (.inr (.inr (.inr (rfN 4 bE))))))], famW 4 (fun ι => iaP G (bE ι) 5 (bl ι)), [(la287, .inl (G.2.1 9, (tsF f g (fun j => nI (cutN p n c j)) (fun _ => 0) n).1, .inr (.inr (.inr (.inr (rfN ((tsF f g (fun j => nI (cutN p n c j)) (fun _ => 0) n).1) lA287))))))], famW ((tsF f g (fun j => nI (cutN p n c j)) (fun _ => 0) n).1) (fun ι => iaP G (lA287 ι) 2 (lf287 ι)), [(wa287, .inl (G.2.1 9, (q + 1), .inr (.inr (.inr (.inr (rfN (q + 1) wA287))))))], Ww287, P990, P986]) rfl ?_
                        refine V_widen (show 1100 * time + 500 + 60 * k + 5 + 30 ≤ 1100 * time + 500 + 60 * k + 36 by omega) (show 9000 * time + 3000 + 600 * k + 30 + 300 ≤ 9000 * time + 3000 + 600 * k + 340 by omega) ?_
                        exact J277 _ _ _ _ _ _ _ _ _ _ _ _ _ _ _ _ _ _ _ _ _ _ (by omega) hI2 hW90 hWo2 (congrArg (· + 1) hq) hw987
                    · have hbn := h83
                      have hbm := bst_neg hb82 (z32_nle h83)
                      refine V_iconst hC dL_law_113 (v := 0) (by decide) ?_
                      refine V_goto hC dL_law_114 (tgt := 122) (by decide) ?_
                      refine V_istore hC dL_law_122 (L' := [(9, .int 0), (8, .int bst), (7, .int (nI c)), (0, .ref (G.2.2 1)), (1, .int (nI time)), (2, .ref t), (3, .ref o), (4, .ref m), (5, .int (nI M)), (6, .int (nI k))]) (by decide) rfl ?_
                      refine V_iload hC dL_law_124 1 rfl ?_
                      refine V_if_geF hC dL_law_126 (tgt := 137) (by decide) (hbn) ?_
                      refine V_aload_n hC dL_law_129 5 rfl ?_
                      refine V_iconst hC dL_law_130 (v := 4) (by decide) ?_
                      refine V_calli hC (V_runV hC (rest := []) [.int 4] (c_X9_draw l G t m bq lq wq (e9 + 1) 4 (by decide) (by decide) (by omega)) [1] rfl (by decide) q743 q744 q745 q19 q746 ⟨by decide, by decide, rfl⟩ ⟨by decide, by decide⟩ (ci := 10) rfl (mem_at 1 0 rfl rfl) rfl (Nat.le_of_ble_eq_true rfl) ⟨(by show 1100 * time + 500 + 60 * k + 0 ≤ 853861; omega), (by show 9000 * time + 3000 + 600 * k + 0 ≤ 6540115; omega)⟩ dL_law_131) (is := [1]) rfl [0, 2, 3, 4, 5, 6, 7, 8] (rs := [P982, [(lq, .inl (G.2.1 9, n, .inr (.inr (.inr (.inr (rfN n lE))))))], famW n (fun ι => iaP G (lE ι) 2 (lx ι)), [(bq, .inl (G.2.1 9, 4, .inr (.inr (.inr (.inr (rfN 4 bE))))))], famW 4 (fun ι => iaP G (bE ι) 5 (bl ι)), [(wq, .inl (G.2.1 9, q, .inr (.inr (.inr (.inr (rfN q wE))))))], Ww, Po]) rfl (by decide) (by decide) ?_
                      rintro _ _ ⟨k91, hk91, rfl, rfl⟩
                      refine V_goto hC dL_law_134 (tgt := 149) (by decide) ?_
                      refine V_istore hC dL_law_149 (L' := [(10, .int (nI k91)), (9, .int 0), (8, .int bst), (7, .int (nI c)), (0, .ref (G.2.2 1)), (1, .int (nI time)), (2, .ref t), (3, .ref o), (4, .ref m), (5, .int (nI M)), (6, .int (nI k))]) (by decide) rfl ?_
                      refine V_iload hC dL_law_151 2 rfl ?_
                      refine V_if_geF hC dL_law_153 (tgt := 164) (by decide) (hbn) ?_
                      refine V_aload_n hC dL_law_156 6 rfl ?_
                      refine V_iconst hC dL_law_157 (v := 4) (by decide) ?_
                      refine V_calli hC (V_runV hC (rest := []) [.int 4] (c_X9_draw l G t m bq lq wq ((e9 + 1) + 1) 4 (by decide) (by decide) (by omega)) [0] rfl (by decide) q743 q744 q745 q19 q746 ⟨by decide, by decide, rfl⟩ ⟨by decide, by decide⟩ (ci := 10) rfl (mem_at 0 0 rfl rfl) rfl (Nat.le_of_ble_eq_true rfl) ⟨(by show 1100 * time + 500 + 60 * k + 0 ≤ 853861; omega), (by show 9000 * time + 3000 + 600 * k + 0 ≤ 6540115; omega)⟩ dL_law_158) (is := [0]) rfl [1, 2, 3, 4, 5, 6, 7, 8] (rs := [P982, [(lq, .inl (G.2.1 9, n, .inr (.inr (.inr (.inr (rfN n lE))))))], famW n (fun ι => iaP G (lE ι) 2 (lx ι)), [(bq, .inl (G.2.1 9, 4, .inr (.inr (.inr (.inr (rfN 4 bE))))))], famW 4 (fun ι => iaP G (bE ι) 5 (bl ι)), [(wq, .inl (G.2.1 9, q, .inr (.inr (.inr (.inr (rfN q wE))))))], Ww, Po]) rfl (by decide) (by decide) ?_
                      rintro _ _ ⟨k92, hk92, rfl, rfl⟩
                      refine V_goto hC dL_law_161 (tgt := 172) (by decide) ?_
                      refine V_istore hC dL_law_172 (L' := [(11, .int (nI k92)), (10, .int (nI k91)), (9, .int 0), (8, .int bst), (7, .int (nI c)), (0, .ref (G.2.2 1)), (1, .int (nI time)), (2, .ref t), (3, .ref o), (4, .ref m), (5, .int (nI M)), (6, .int (nI k))]) (by decide) rfl ?_
                      refine V_iload hC dL_law_174 3 rfl ?_
                      refine V_if_geF hC dL_law_176 (tgt := 187) (by decide) (hbn) ?_
                      refine V_aload_n hC dL_law_179 7 rfl ?_
                      refine V_iconst hC dL_law_180 (v := 4) (by decide) ?_
                      refine V_calli hC (V_runV hC (rest := []) [.int 4] (c_X9_draw l G t m bq lq wq (((e9 + 1) + 1) + 1) 4 (by decide) (by decide) (by omega)) [0] rfl (by decide) q743 q744 q745 q19 q746 ⟨by decide, by decide, rfl⟩ ⟨by decide, by decide⟩ (ci := 10) rfl (mem_at 0 0 rfl rfl) rfl (Nat.le_of_ble_eq_true rfl) ⟨(by show 1100 * time + 500 + 60 * k + 0 ≤ 853861; omega), (by show 9000 * time + 3000 + 600 * k + 0 ≤ 6540115; omega)⟩ dL_law_181) (is := [0]) rfl [1, 2, 3, 4, 5, 6, 7, 8] (rs := [P982, [(lq, .inl (G.2.1 9, n, .inr (.inr (.inr (.inr (rfN n lE))))))], famW n (fun ι => iaP G (lE ι) 2 (lx ι)), [(bq, .inl (G.2.1 9, 4, .inr (.inr (.inr (.inr (rfN 4 bE))))))], famW 4 (fun ι => iaP G (bE ι) 5 (bl ι)), [(wq, .inl (G.2.1 9, q, .inr (.inr (.inr (.inr (rfN q wE))))))], Ww, Po]) rfl (by decide) (by decide) ?_
                      rintro _ _ ⟨k93, hk93, rfl, rfl⟩
                      refine V_goto hC dL_law_184 (tgt := 192) (by decide) ?_
                      refine V_istore hC dL_law_192 (L' := [(12, .int (nI k93)), (11, .int (nI k92)), (10, .int (nI k91)), (9, .int 0), (8, .int bst), (7, .int (nI c)), (0, .ref (G.2.2 1)), (1, .int (nI time)), (2, .ref t), (3, .ref o), (4, .ref m), (5, .int (nI M)), (6, .int (nI k))]) (by decide) rfl ?_
                      have hA3 : k91 ≤ 3 := by omega
                      have hB3 : k92 ≤ 3 := by omega
                      have hD3 : k93 ≤ 3 := by omega
                      have hch : chOk (nI c) (nI k91) (nI k92) (nI k93) := ⟨inR_nI1 (K := 1) (M := 9) hc1 hc9, inR_nI (M := 3) hA3, inR_nI (M := 3) hB3, inR_nI (M := 3) hD3⟩
                      have hsm1 : ¬ sm g1 n < nI c := by rw [← sm_c (fun j hj => (hI.1.2.2.2 j hj).2)]; exact hsm
                      have hq31 : S1.2.1 < 3 := by rw [← hkE.2.1]; exact hq3
                      refine V_aload_n hC dL_law_194 9 rfl ?_
                      refine V_iload hC dL_law_195 5 rfl ?_
                      refine V_iload hC dL_law_197 2 rfl ?_
                      refine V_iload hC dL_law_199 1 rfl ?_
                      refine V_iload hC dL_law_201 0 rfl ?_
                      obtain ⟨fshm94, hm94⟩ := isW_mem hWo
                      refine V_calli hC (V_runV hC (rest := []) [.int (nI c), .int (nI k91), .int (nI k92), .int (nI k93)] (w_charge l hl0 G o 4 bz1 n f1 g1 S1 nl lz1 Po c (nI k91) (nI k92) (nI k93) hWo hok.2 hc9 hch hsm1 hq31) [8] rfl (by decide) q315 q316 q317 q20 q318 ⟨by decide, by decide, rfl⟩ ⟨by decide, by decide⟩ (ci := 9) rfl (mem_pc 8 rfl hm94) rfl (Nat.le_of_ble_eq_true rfl) ⟨(by show 1100 * time + 500 + 60 * k + 5 ≤ 853861; omega), (by show 9000 * time + 3000 + 600 * k + 30 ≤ 6540115; omega)⟩ dL_law_203) (is := [8]) rfl [0, 1, 2, 3, 4, 5, 6, 7] (rs := [[(t, .inr (10, [.ref m, .ref (G.2.2 1), .int (nI ((((e9 + 1) + 1) + 1) + 1)), .ref bq, .ref lq, .ref wq]))], P982, [(lq, .inl (G.2.1 9, n, .inr (.inr (.inr (.inr (rfN n lE))))))], famW n (fun ι => iaP G (lE ι) 2 (lx ι)), [(bq, .inl (G.2.1 9, 4, .inr (.inr (.inr (.inr (rfN 4 bE))))))], famW 4 (fun ι => iaP G (bE ι) 5 (bl ι)), [(wq, .inl (G.2.1 9, q, .inr (.inr (.inr (.inr (rfN q wE))))))], Ww]) rfl (by decide) (by decide) ?_
                      rintro _ _ ⟨P995, ⟨h995, cm995, rfl, hW95⟩, rfl⟩
                      refine V_pop hC dL_law_206 rfl ?_
                      refine V_aload_n hC dL_law_207 8 rfl ?_
                      refine V_iload hC dL_law_208 5 rfl ?_
                      refine V_iload hC dL_law_210 2 rfl ?_
                      refine V_iload hC dL_law_212 1 rfl ?_
                      refine V_iload hC dL_law_214 0 rfl ?_
                      refine V_calli hC (V_runV hC (rest := []) [.int (nI c), .int (nI k91), .int (nI k92), .int (nI k93)] (c_X9_charge l hl0 G t m bq lq wq ((((e9 + 1) + 1) + 1) + 1) bE bl lE lx q wE Ww bz n f g S nl lz P982 p c (nI k91) (nI k92) (nI k93) hW82 hok.1 hI.2.1.2.1 hlx hly hI.1.2.1 hq hq3 hwA hc1 hc9 hcP hch) [1, 5, 6, 3, 4, 7, 8, 2] rfl (by decide) q765 q766 q767 q19 q768 ⟨by decide, by decide, rfl⟩ ⟨by decide, by decide⟩ (ci := 10) rfl (mem_at 1 0 rfl rfl) rfl (Nat.le_of_ble_eq_true rfl) ⟨(by show 1100 * time + 500 + 60 * k + 5 + 30 ≤ 853861; omega), (by show 9000 * time + 3000 + 600 * k + 30 + 300 ≤ 6540115; omega)⟩ dL_law_216) (is := [1, 5, 6, 3, 4, 7, 8, 2]) rfl [0] (rs := [P995]) rfl (by decide) (by decide) ?_
                      rintro _ _ ⟨h996, cm996, la296, wa296, lA296, wA296, lf296, Ww296, P996, rfl, hW96, hl996, hw996, rfl⟩
                      refine V_if_neT hC dL_law_219 (tgt := 224) (by decide) (by decide) ?_
                      obtain ⟨ht1, p9, hlw⟩ := lw_chg (a := k91) (b := k92) (d := k93) (h9 := h996) (cm9 := cm996) (h8 := h995) (cm8 := cm995) hI hc1 hc9 hcP hA3 hB3 hD3 hq3 hM1
                      have hI2 := hlw lf296 hl996
                      have hWo2 := hW95
                      rw [ht1] at hWo2
                      have hok2 := lw_ok hI2
                      refine V_iinc hC dL_law_224 (v := nI (M + 1)) (L' := [(5, .int (nI (M + 1))), (12, .int (nI k93)), (11, .int (nI k92)), (10, .int (nI k91)), (9, .int 0), (8, .int bst), (7, .int (nI c)), (0, .ref (G.2.2 1)), (1, .int (nI time)), (2, .ref t), (3, .ref o), (4, .ref m), (6, .int (nI k))]) (j := 11) rfl (nI_1 _) (by decide) rfl ?_
                      refine V_aload_n hC dL_law_227 9 rfl ?_
                      refine V_get hC dL_law_228 inAX9 (mem_at 0 0 rfl rfl) rfl 5 (by decide) q729 rfl (v := .ref wa296) rfl ?_
                      refine V_alen hC dL_law_231 9 rfl (mem_at 5 0 rfl rfl) (v := nI (q + 1)) (rfl) ?_
                      refine V_iconst hC dL_law_232 (v := 1) (by decide) ?_
                      refine V_isub hC dL_law_233 ?_
                      refine V_eqi (y := nI q) (nI_pred q) ?_
                      refine V_istore hC dL_law_234 (L' := [(13, .int (nI q)), (5, .int (nI (M + 1))), (12, .int (nI k93)), (11, .int (nI k92)), (10, .int (nI k91)), (9, .int 0), (8, .int bst), (7, .int (nI c)), (0, .ref (G.2.2 1)), (1, .int (nI time)), (2, .ref t), (3, .ref o), (4, .ref m), (6, .int (nI k))]) (by decide) rfl ?_
                      refine V_iload hC dL_law_236 6 rfl ?_
                      refine V_if_ltT hC dL_law_238 (tgt := 258) (by decide) (z32_nle hbn) ?_
                      refine V_iload hC dL_law_258 6 rfl ?_
                      refine V_if_geF hC dL_law_260 (tgt := 277) (by decide) (hbn) ?_
                      refine V_aload hC dL_law_263 12 rfl ?_
                      refine V_iload hC dL_law_265 0 rfl ?_
                      refine V_iconst hC dL_law_267 (v := 3) (by decide) ?_
                      obtain ⟨fshm97, hm97⟩ := isW_mem hW96
                      refine V_calli hC (V_runV hC (rest := []) [.int (nI q), .int 3] (w_modulus l G m 4 bz ((tsF f g (fun j => nI (cutN p n c j)) (fun _ => 0) n).1) ((tsF f g (fun j => nI (cutN p n c j)) (fun _ => 0) n).2.1) ((tsF f g (fun j => nI (cutN p n c j)) (fun _ => 0) n).2.2.1) (S.1, S.2.1 + 1, S.2.2.1, va_up S.2.2.2.1 S.2.1 (cgV f g h996 n c (S.2.2.2.1 S.2.1) (cgF bz f g h996 cm996 n c (nI k91) (nI k92) (nI k93))), S.2.2.2.2) nl lz P996 q 3 hW96 hok2.1 (by show q < S.2.1 + 1; omega) (by decide)) [7] rfl (by decide) q561 q562 q563 q20 q564 ⟨by decide, by decide, rfl⟩ ⟨by decide, by decide⟩ (ci := 9) rfl (mem_pc 7 rfl hm97) rfl (Nat.le_of_ble_eq_true rfl) ⟨(by show 1100 * time + 500 + 60 * k + 5 + 30 + 0 ≤ 853861; omega), (by show 9000 * time + 3000 + 600 * k + 30 + 300 + 0 ≤ 6540115; omega)⟩ dL_law_268) (is := [7]) rfl [0, 1, 2, 3, 4, 5, 6, 8] (rs := [[(t, .inr (10, [.ref m, .ref (G.2.2 1), .int (nI ((((e9 + 1) + 1) + 1) + 1)), .ref bq, .ref la296, .ref wa296]))], [(bq, .inl (G.2.1 9, 4, .inr (.inr (.inr (.inr (rfN 4 bE))))))], famW 4 (fun ι => iaP G (bE ι) 5 (bl ι)), [(la296, .inl (G.2.1 9, (tsF f g (fun j => nI (cutN p n c j)) (fun _ => 0) n).1, .inr (.inr (.inr (.inr (rfN ((tsF f g (fun j => nI (cutN p n c j)) (fun _ => 0) n).1) lA296))))))], famW ((tsF f g (fun j => nI (cutN p n c j)) (fun _ => 0) n).1) (fun ι => iaP G (lA296 ι) 2 (lf296 ι)), [(wa296, .inl (G.2.1 9, (q + 1), .inr (.inr (.inr (.inr (rfN (q + 1) wA296))))))], Ww296, P995]) rfl (by decide) (by decide) ?_
                      rintro _ _ ⟨P998, ⟨rfl, hW98⟩, rfl⟩
                      refine V_iconst hC dL_law_271 (v := 1) (by decide) ?_
                      refine V_icmp_neT hC dL_law_272 (tgt := 277) (by decide) (fun z => hbm _ _ _ hA3 hB3 hD3 ((rt_mod (h8 := h982) (cm8 := cm982) hly hc1 hc9 hcP).mpr (by rw [hq] at z; exact z))) ?_
                      refine V_loc (L' := [(0, .ref (G.2.2 1)), (1, .int (nI time)), (2, .ref t), (3, .ref o), (4, .ref m), (5, .int (nI (M + 1))), (6, .int (nI k))]) [8, 9, 10, 11, 12, 1, 13] rfl ?_
                      refine V_sub [1, 2, 3, 4, 5, 6, 7, 0, 8] (by decide) (u := [[(t, .inr (10, [.ref m, .ref (G.2.2 1), .int (nI ((((e9 + 1) + 1) + 1) + 1)), .ref bq, .ref la296, .ref wa296]))], [(bq, .inl (G.2.1 9, 4, .inr (.inr (.inr (.inr (rfN 4 bE))))))], famW 4 (fun ι => iaP G (bE ι) 5 (bl ι)), [(la296, .inl (G.2.1 9, (tsF f g (fun j => nI (cutN p n c j)) (fun _ => 0) n).1, .inr (.inr (.inr (.inr (rfN ((tsF f g (fun j => nI (cutN p n c j)) (fun _ => 0) n).1) lA296))))))], famW ((tsF f g (fun j => nI (cutN p n c j)) (fun _ => 0) n).1) (fun ι => iaP G (lA296 ι) 2 (lf296 ι)), [(wa296, .inl (G.2.1 9, (q + 1), .inr (.inr (.inr (.inr (rfN (q + 1) wA296))))))], Ww296, P998, P995]) rfl ?_
                      refine V_widen (show 1100 * time + 500 + 60 * k + 5 + 30 ≤ 1100 * time + 500 + 60 * k + 36 by omega) (show 9000 * time + 3000 + 600 * k + 30 + 300 ≤ 9000 * time + 3000 + 600 * k + 340 by omega) ?_
                      exact J277 _ _ _ _ _ _ _ _ _ _ _ _ _ _ _ _ _ _ _ _ _ _ (by omega) hI2 hW98 hWo2 (congrArg (· + 1) hq) hw996
        refine V_loc (L' := [(0, .ref (G.2.2 1)), (1, .int (nI time)), (2, .ref t), (3, .ref o), (4, .ref m), (5, .int 0), (6, .int 0)]) [5, 6, 4, 3, 2, 1, 0] rfl ?_
        refine V_sub [0, 1, 2, 3, 4, 7, 8, 6, 5] (by decide) (u := [[(t, .inr (10, [.ref m, .ref (G.2.2 1), .int (nI e9), .ref bq, .ref lq, .ref wa]))], [(bq, .inl (G.2.1 9, 4, .inr (.inr (.inr (.inr (rfN 4 bE))))))], famW 4 (fun ι => iaP G (bE ι) 5 (bl ι)), [(lq, .inl (G.2.1 9, n, .inr (.inr (.inr (.inr (rfN n lE))))))], famW n (fun ι => iaP G (lE ι) 2 (lx ι)), [(wa, .inl (G.2.1 9, 0, .inr (.inr (.inr (.inr (rfN 0 (fun _ => 0 : Nat → Nat)))))))], noW, P95, P96]) rfl ?_
        exact loop7 (9 + 1) 0 e9 n 0 lq wa 0 lE (fun _ => 0 : Nat → Nat) lx f g f9 g9 p kS0 kS0 0 (fun _ => lz0) (fun _ => lz0) noW P95 P96 (by omega) (by omega) (lw_0 hB hX hb hfg hk01) hW5 hW6 rfl (fun i hi => absurd hi (Nat.not_lt_zero i)) (by omega)
  refine V_loc (L' := [(0, .ref (G.2.2 1)), (1, .int 0)]) [1, 0] rfl ?_
  exact loop1 (2 + 1) 0 (by omega) (by omega)
