/-! ===== the law's own class: blocks and a pile of some layers ===== -/
/-- so many blocks told, nothing blasted -/
def tF (k : Nat) (st : Nat → Nat) (bz : Nat → BV) (bl : Nat → Nat → Int32) : Prop := (∀ i, (bz i).2.1 = 0) ∧ ∀ i, i < k → bl i 0 = nI (st i) ∧ (bz i).1 = nI (st i) ∧ st i ≤ 160 ∧ ∀ j, j < 4 → bl i (j + 1) = (bz i).2.2 j ∧ ∃ w : Nat, w ≤ 9 ∧ bl i (j + 1) = nI w
theorem tF_0 {st : Nat → Nat} {bl : Nat → Nat → Int32} : tF 0 st (fun _ => bz0) bl := ⟨fun _ => rfl, fun i hi => absurd hi (Nat.not_lt_zero i)⟩
theorem tF_put {k s a b c d : Nat} {st : Nat → Nat} {bz : Nat → BV} {bl : Nat → Nat → Int32} (h : tF k st bz bl) (hs : s ≤ 160) (ha : a ≤ 9) (hb : b ≤ 9) (hc : c ≤ 9) (hd : d ≤ 9) : tF (k + 1) (va_up st k s) (va_up bz k (nI s, (bz k).2.1, tl5 (bz k).2.2 (nI a) (nI b) (nI c) (nI d))) (va_up bl k (rw5 (nI s) (nI a) (nI b) (nI c) (nI d))) := by
  refine ⟨fun i => ?_, fun i hi => ?_⟩
  · by_cases e : i = k
    · rw [e, va_up_eq]
      exact h.1 k
    · rw [va_up_ne _ _ e]
      exact h.1 i
  · by_cases e : i = k
    · rw [e, va_up_eq, va_up_eq, va_up_eq]
      refine ⟨rfl, rfl, hs, fun j hj => ?_⟩
      match j, hj with
      | 0, _ => exact ⟨rfl, a, ha, rfl⟩
      | 1, _ => exact ⟨rfl, b, hb, rfl⟩
      | 2, _ => exact ⟨rfl, c, hc, rfl⟩
      | 3, _ => exact ⟨rfl, d, hd, rfl⟩
    · rw [va_up_ne _ _ e, va_up_ne _ _ e, va_up_ne _ _ e]
      exact h.2 i (by omega)
theorem tF_B {st p : Nat → Nat} {bz : Nat → BV} {bl lf : Nat → Nat → Int32} {f g : Nat → Int32} (h : tF 4 st bz bl) : tB 0 st p bz 0 f g bl lf :=
  ⟨Nat.le_refl 0, fun i hi => ⟨(h.2 i hi).1, (h.2 i hi).2.1, (h.2 i hi).2.2.1, h.1 i⟩, fun j hj => absurd hj (Nat.not_lt_zero j), fun i _ => Or.inl (h.1 i)⟩
theorem tF_X {st : Nat → Nat} {bz : Nat → BV} {bl : Nat → Nat → Int32} (h : tF 4 st bz bl) : tX bz bl := fun i hi k hk => (h.2 i hi).2.2.2 k hk
theorem kwf_0 : kwf kS0 := ⟨Nat.zero_le 3, fun _ _ => Or.inl rfl, fun _ _ => Or.inl rfl, Or.inl rfl⟩
theorem tF_ok {k : Nat} {st : Nat → Nat} {bz : Nat → BV} {bl : Nat → Nat → Int32} {f g : Nat → Int32} (h : tF k st bz bl) (hk : k ≤ 6) : wOk k bz 0 f g kS0 0 := ⟨hk, Nat.zero_le 8, fun j hj => absurd hj (Nat.not_lt_zero j), fun i _ => Or.inl (h.1 i), kwf_0, Nat.zero_le 12⟩
set_option maxHeartbeats 4000000 in
set_option maxRecDepth 100000 in
/-- ClinkerWorksLaw$Told.found -/
theorem c_X9_found (l : Launch) (hl0 : l.stackTraces = false) (G : VG) (t m ba la wa d : Nat) (bA lA : Nat → Nat) (bl0 lf0 : Nat → Nat → Int32) (P : va_W) (hP : isW G m 0 (fun _ => bz0) 0 (fun _ => 0) (fun _ => 0) kS0 0 (fun _ => lz0) P) (hd : d ≤ 900) : Mi l G yX9_found cX9_found 2 .boolean 9 154 60 560 [.ref t] [[(t, .inr (10, [.ref m, .ref (G.2.2 1), .int (nI d), .ref ba, .ref la, .ref wa]))], [(ba, .inl (G.2.1 9, 0, .inr (.inr (.inr (.inr (rfN 0 bA))))))], famW 0 (fun ι => iaP G (bA ι) 5 (bl0 ι)), [(la, .inl (G.2.1 9, 0, .inr (.inr (.inr (.inr (rfN 0 lA))))))], famW 0 (fun ι => iaP G (lA ι) 2 (lf0 ι)), P] (fun r u => ∃ (e9 bq lq n : Nat) (bE lE : Nat → Nat) (bl lx : Nat → Nat → Int32) (bz : Nat → BV) (f g : Nat → Int32) (st p : Nat → Nat) (P9 : va_W), r = 1 ∧ e9 ≤ d + 28 ∧ tB 4 st p bz n f g bl lx ∧ tX bz bl ∧ isW G m 4 bz n f g kS0 0 (fun _ => lz0) P9 ∧ u = [[(t, .inr (10, [.ref m, .ref (G.2.2 1), .int (nI e9), .ref bq, .ref lq, .ref wa]))], [(bq, .inl (G.2.1 9, 4, .inr (.inr (.inr (.inr (rfN 4 bE))))))], famW 4 (fun ι => iaP G (bE ι) 5 (bl ι)), [(lq, .inl (G.2.1 9, n, .inr (.inr (.inr (.inr (rfN n lE))))))], famW n (fun ι => iaP G (lE ι) 2 (lx ι)), P9]) := by
  refine Mi_of (by decide) (Nat.le_of_ble_eq_true rfl) (fun pP eE sS mM aA bB tT cC AA QQ hC hr hnm hQ => ?_)
  refine V_iconst hC dX9_found_0 (v := 0) (by decide) ?_
  refine V_istore_n hC dX9_found_1 (L' := [(1, .int 0), (0, .ref t)]) (by decide) rfl ?_
  have loop1 : ∀ (fuel : Nat) (k e9 bq : Nat) (bE : Nat → Nat) (bl : Nat → Nat → Int32) (bz : Nat → BV) (st : Nat → Nat) (P9 : va_W) (hk : k ≤ 4) (he : e9 ≤ d + 5 * k) (hF : tF k st bz bl) (hW : isW G m k bz 0 (fun _ => 0) (fun _ => 0) kS0 0 (fun _ => lz0) P9) (_ : 4 - k < fuel), V pP l eE { frames := 9, cells := 60, slots := 560, locals := 154 } sS mM aA bB tT cC QQ G AA 2 [[(t, .inr (10, [.ref m, .ref (G.2.2 1), .int (nI e9), .ref bq, .ref la, .ref wa]))], [(bq, .inl (G.2.1 9, k, .inr (.inr (.inr (.inr (rfN k bE))))))], famW k (fun ι => iaP G (bE ι) 5 (bl ι)), [(la, .inl (G.2.1 9, 0, .inr (.inr (.inr (.inr (rfN 0 lA))))))], famW 0 (fun ι => iaP G (lA ι) 2 (lf0 ι)), P9] (10 * k) (80 * k) 2 [(0, .ref t), (1, .int (nI k))] [] := by
    intro fuel
    induction fuel with
    | zero => intro k e9 bq bE bl bz st P9 hk he hF hW hm; exact absurd hm (Nat.not_lt_zero _)
    | succ fuel ih =>
      intro k e9 bq bE bl bz st P9 hk he hF hW hm
      refine V_iload_n hC dX9_found_2 1 rfl ?_
      refine V_iconst hC dX9_found_3 (v := 4) (by decide) ?_
      refine V_icmp_ge hC dX9_found_4 (tgt := 55) (by decide) (fun h2 => ?_) (fun h2 => ?_)
      · have he4 : k = 4 := by have := nle (a := 4) h2; omega
        rw [he4] at hF hW he
        rw [he4]
        refine V_iconst hC dX9_found_55 (v := 0) (by decide) ?_
        refine V_istore_n hC dX9_found_56 (L' := [(1, .int 0), (0, .ref t)]) (by decide) rfl ?_
        have loop3 : ∀ (fuel : Nat) (k e9 bq lq n : Nat) (bE lE : Nat → Nat) (bl lx : Nat → Nat → Int32) (bz : Nat → BV) (f g : Nat → Int32) (st p : Nat → Nat) (P9 : va_W) (hk : k ≤ 4) (he : e9 ≤ d + 20 + 2 * k) (hT : tB k st p bz n f g bl lx) (hX : tX bz bl) (hW : isW G m 4 bz n f g kS0 0 (fun _ => lz0) P9) (_ : 4 - k < fuel), V pP l eE { frames := 9, cells := 60, slots := 560, locals := 154 } sS mM aA bB tT cC QQ G AA 2 [[(t, .inr (10, [.ref m, .ref (G.2.2 1), .int (nI e9), .ref bq, .ref lq, .ref wa]))], [(bq, .inl (G.2.1 9, 4, .inr (.inr (.inr (.inr (rfN 4 bE))))))], famW 4 (fun ι => iaP G (bE ι) 5 (bl ι)), [(lq, .inl (G.2.1 9, n, .inr (.inr (.inr (.inr (rfN n lE))))))], famW n (fun ι => iaP G (lE ι) 2 (lx ι)), P9] (40 + 5 * k) (320 + 60 * k) 57 [(0, .ref t), (1, .int (nI k))] [] := by
          intro fuel
          induction fuel with
          | zero => intro k e9 bq lq n bE lE bl lx bz f g st p P9 hk he hT hX hW hm; exact absurd hm (Nat.not_lt_zero _)
          | succ fuel ih =>
            intro k e9 bq lq n bE lE bl lx bz f g st p P9 hk he hT hX hW hm
            refine V_iload_n hC dX9_found_57 1 rfl ?_
            refine V_iconst hC dX9_found_58 (v := 4) (by decide) ?_
            refine V_icmp_ge hC dX9_found_59 (tgt := 90) (by decide) (fun h4 => ?_) (fun h4 => ?_)
            · have he4 : k = 4 := by have := nle (a := 4) h4; omega
              rw [he4] at hT he
              rw [he4]
              refine V_iconst hC dX9_found_90 (v := 1) (by decide) ?_
              exact V_zret hC hQ hr (by decide) [0, 1, 2, 3, 4, 5] (u := [[(t, .inr (10, [.ref m, .ref (G.2.2 1), .int (nI e9), .ref bq, .ref lq, .ref wa]))], [(bq, .inl (G.2.1 9, 4, .inr (.inr (.inr (.inr (rfN 4 bE))))))], famW 4 (fun ι => iaP G (bE ι) 5 (bl ι)), [(lq, .inl (G.2.1 9, n, .inr (.inr (.inr (.inr (rfN n lE))))))], famW n (fun ι => iaP G (lE ι) 2 (lx ι)), P9]) (by decide) rfl (by decide) (by decide) dX9_found_91 (⟨e9, bq, lq, n, bE, lE, bl, lx, bz, f, g, st, p, P9, rfl, by omega, hT, hX, hW, rfl⟩)
            · have hlt := nnle (a := 4) h4
              refine V_aload_n hC dX9_found_62 0 rfl ?_
              refine V_aload_n hC dX9_found_63 0 rfl ?_
              refine V_iconst hC dX9_found_64 (v := 4) (by decide) ?_
              refine V_calli hC (V_runV hC (rest := [.ref t]) [.int 4] (c_X9_draw l G t m bq lq wa e9 4 (by decide) (by decide) (by omega)) [0] rfl (by decide) q793 q744 q745 q19 q746 ⟨by decide, by decide, rfl⟩ ⟨by decide, by decide⟩ (ci := 10) rfl (mem_at 0 0 rfl rfl) rfl (Nat.le_of_ble_eq_true rfl) ⟨(by show 40 + 5 * k + 0 ≤ 60; omega), (by show 320 + 60 * k + 0 ≤ 560; omega)⟩ dX9_found_65) (is := [0]) rfl [1, 2, 3, 4, 5] (rs := [[(bq, .inl (G.2.1 9, 4, .inr (.inr (.inr (.inr (rfN 4 bE))))))], famW 4 (fun ι => iaP G (bE ι) 5 (bl ι)), [(lq, .inl (G.2.1 9, n, .inr (.inr (.inr (.inr (rfN n lE))))))], famW n (fun ι => iaP G (lE ι) 2 (lx ι)), P9]) rfl (by decide) (by decide) ?_
              rintro _ _ ⟨k5, hk5, rfl, rfl⟩
              refine V_iconst hC dX9_found_68 (v := 5) (by decide) ?_
              refine V_aload_n hC dX9_found_69 0 rfl ?_
              refine V_bipush hC dX9_found_70 (v := 30) (by decide) ?_
              refine V_calli hC (V_runV hC (rest := [.int 5, .int (nI k5), .ref t]) [.int 30] (c_X9_draw l G t m bq lq wa (e9 + 1) 30 (by decide) (by decide) (by omega)) [0] rfl (by decide) q793 q744 q745 q19 q746 ⟨by decide, by decide, rfl⟩ ⟨by decide, by decide⟩ (ci := 10) rfl (mem_at 0 0 rfl rfl) rfl (Nat.le_of_ble_eq_true rfl) ⟨(by show 40 + 5 * k + 0 ≤ 60; omega), (by show 320 + 60 * k + 0 ≤ 560; omega)⟩ dX9_found_72) (is := [0]) rfl [1, 2, 3, 4, 5] (rs := [[(bq, .inl (G.2.1 9, 4, .inr (.inr (.inr (.inr (rfN 4 bE))))))], famW 4 (fun ι => iaP G (bE ι) 5 (bl ι)), [(lq, .inl (G.2.1 9, n, .inr (.inr (.inr (.inr (rfN n lE))))))], famW n (fun ι => iaP G (lE ι) 2 (lx ι)), P9]) rfl (by decide) (by decide) ?_
              rintro _ _ ⟨k6, hk6, rfl, rfl⟩
              refine V_iadd hC dX9_found_75 ?_
              refine V_eqi (y := nI (5 + k6)) (nI_add 5 k6) ?_
              refine V_calli hC (V_runV hC (rest := []) [.int (nI k5), .int (nI (5 + k6))] (c_X9_blast l hl0 G t m bq lq wa ((e9 + 1) + 1) bE bl lE lx bz n f g kS0 0 (fun _ => lz0) P9 k st p k5 (5 + k6) hW hT hX (by omega) kwf_0 (Nat.zero_le 12) (by omega) (by omega) (by omega)) [0, 1, 2, 3, 4, 5] rfl (by decide) q807 q808 q809 q19 q810 ⟨by decide, by decide, rfl⟩ ⟨by decide, by decide⟩ (ci := 10) rfl (mem_at 0 0 rfl rfl) rfl (Nat.le_of_ble_eq_true rfl) ⟨(by show 40 + 5 * k + 5 ≤ 60; omega), (by show 320 + 60 * k + 60 ≤ 560; omega)⟩ dX9_found_76) (is := [0, 1, 2, 3, 4, 5]) rfl [] (rs := []) rfl (by decide) (by decide) ?_
              rintro _ _ ⟨la27, lA27, n27, lf27, bl27, bz27, f27, g27, st27, p27, P97, rfl, hW7, hB7, hX7, rfl⟩
              refine V_if_neT hC dX9_found_79 (tgt := 84) (by decide) (by decide) ?_
              refine V_iinc hC dX9_found_84 (v := nI (k + 1)) (L' := [(1, .int (nI (k + 1))), (0, .ref t)]) (j := 1) rfl (nI_1 _) (by decide) rfl ?_
              refine V_goto hC dX9_found_87 (tgt := 57) (by decide) ?_
              refine V_loc (L' := [(0, .ref t), (1, .int (nI (k + 1)))]) [1, 0] rfl ?_
              refine V_widen (show 40 + 5 * k + 5 ≤ 40 + 5 * (k + 1) by omega) (show 320 + 60 * k + 60 ≤ 320 + 60 * (k + 1) by omega) ?_
              exact ih (k + 1) _ _ _ _ _ _ _ _ _ _ _ _ _ _ (by omega) (by omega) hB7 hX7 hW7 (by omega)
        refine V_loc (L' := [(0, .ref t), (1, .int 0)]) [1, 0] rfl ?_
        exact loop3 (4 + 1) 0 e9 bq la 0 bE lA bl lf0 bz (fun _ => 0) (fun _ => 0) st (fun _ => 0) P9 (by omega) (by omega) (tF_B hF) (tF_X hF) hW (by omega)
      · have hlt := nnle (a := 4) h2
        refine V_aload_n hC dX9_found_7 0 rfl ?_
        refine V_bipush hC dX9_found_8 (v := 40) (by decide) ?_
        refine V_aload_n hC dX9_found_10 0 rfl ?_
        refine V_bipush hC dX9_found_11 (v := 120) (by decide) ?_
        refine V_calli hC (V_runV hC (rest := [.int 40, .ref t]) [.int 120] (c_X9_draw l G t m bq la wa e9 120 (by decide) (by decide) (by omega)) [0] rfl (by decide) q793 q744 q745 q19 q746 ⟨by decide, by decide, rfl⟩ ⟨by decide, by decide⟩ (ci := 10) rfl (mem_at 0 0 rfl rfl) rfl (Nat.le_of_ble_eq_true rfl) ⟨(by show 10 * k + 0 ≤ 60; omega), (by show 80 * k + 0 ≤ 560; omega)⟩ dX9_found_13) (is := [0]) rfl [1, 2, 3, 4, 5] (rs := [[(bq, .inl (G.2.1 9, k, .inr (.inr (.inr (.inr (rfN k bE))))))], famW k (fun ι => iaP G (bE ι) 5 (bl ι)), [(la, .inl (G.2.1 9, 0, .inr (.inr (.inr (.inr (rfN 0 lA))))))], famW 0 (fun ι => iaP G (lA ι) 2 (lf0 ι)), P9]) rfl (by decide) (by decide) ?_
        rintro _ _ ⟨k8, hk8, rfl, rfl⟩
        refine V_iadd hC dX9_found_16 ?_
        refine V_eqi (y := nI (40 + k8)) (nI_add 40 k8) ?_
        refine V_iconst hC dX9_found_17 (v := 4) (by decide) ?_
        refine V_aload_n hC dX9_found_18 0 rfl ?_
        refine V_bipush hC dX9_found_19 (v := 6) (by decide) ?_
        refine V_calli hC (V_runV hC (rest := [.int 4, .int (nI (40 + k8)), .ref t]) [.int 6] (c_X9_draw l G t m bq la wa (e9 + 1) 6 (by decide) (by decide) (by omega)) [0] rfl (by decide) q793 q744 q745 q19 q746 ⟨by decide, by decide, rfl⟩ ⟨by decide, by decide⟩ (ci := 10) rfl (mem_at 0 0 rfl rfl) rfl (Nat.le_of_ble_eq_true rfl) ⟨(by show 10 * k + 0 ≤ 60; omega), (by show 80 * k + 0 ≤ 560; omega)⟩ dX9_found_21) (is := [0]) rfl [1, 2, 3, 4, 5] (rs := [[(bq, .inl (G.2.1 9, k, .inr (.inr (.inr (.inr (rfN k bE))))))], famW k (fun ι => iaP G (bE ι) 5 (bl ι)), [(la, .inl (G.2.1 9, 0, .inr (.inr (.inr (.inr (rfN 0 lA))))))], famW 0 (fun ι => iaP G (lA ι) 2 (lf0 ι)), P9]) rfl (by decide) (by decide) ?_
        rintro _ _ ⟨k9, hk9, rfl, rfl⟩
        refine V_iadd hC dX9_found_24 ?_
        refine V_eqi (y := nI (4 + k9)) (nI_add 4 k9) ?_
        refine V_aload_n hC dX9_found_25 0 rfl ?_
        refine V_bipush hC dX9_found_26 (v := 7) (by decide) ?_
        refine V_calli hC (V_runV hC (rest := [.int (nI (4 + k9)), .int (nI (40 + k8)), .ref t]) [.int 7] (c_X9_draw l G t m bq la wa ((e9 + 1) + 1) 7 (by decide) (by decide) (by omega)) [0] rfl (by decide) q793 q744 q745 q19 q746 ⟨by decide, by decide, rfl⟩ ⟨by decide, by decide⟩ (ci := 10) rfl (mem_at 0 0 rfl rfl) rfl (Nat.le_of_ble_eq_true rfl) ⟨(by show 10 * k + 0 ≤ 60; omega), (by show 80 * k + 0 ≤ 560; omega)⟩ dX9_found_28) (is := [0]) rfl [1, 2, 3, 4, 5] (rs := [[(bq, .inl (G.2.1 9, k, .inr (.inr (.inr (.inr (rfN k bE))))))], famW k (fun ι => iaP G (bE ι) 5 (bl ι)), [(la, .inl (G.2.1 9, 0, .inr (.inr (.inr (.inr (rfN 0 lA))))))], famW 0 (fun ι => iaP G (lA ι) 2 (lf0 ι)), P9]) rfl (by decide) (by decide) ?_
        rintro _ _ ⟨k10, hk10, rfl, rfl⟩
        refine V_aload_n hC dX9_found_31 0 rfl ?_
        refine V_iconst hC dX9_found_32 (v := 4) (by decide) ?_
        refine V_calli hC (V_runV hC (rest := [.int (nI k10), .int (nI (4 + k9)), .int (nI (40 + k8)), .ref t]) [.int 4] (c_X9_draw l G t m bq la wa (((e9 + 1) + 1) + 1) 4 (by decide) (by decide) (by omega)) [0] rfl (by decide) q793 q744 q745 q19 q746 ⟨by decide, by decide, rfl⟩ ⟨by decide, by decide⟩ (ci := 10) rfl (mem_at 0 0 rfl rfl) rfl (Nat.le_of_ble_eq_true rfl) ⟨(by show 10 * k + 0 ≤ 60; omega), (by show 80 * k + 0 ≤ 560; omega)⟩ dX9_found_33) (is := [0]) rfl [1, 2, 3, 4, 5] (rs := [[(bq, .inl (G.2.1 9, k, .inr (.inr (.inr (.inr (rfN k bE))))))], famW k (fun ι => iaP G (bE ι) 5 (bl ι)), [(la, .inl (G.2.1 9, 0, .inr (.inr (.inr (.inr (rfN 0 lA))))))], famW 0 (fun ι => iaP G (lA ι) 2 (lf0 ι)), P9]) rfl (by decide) (by decide) ?_
        rintro _ _ ⟨k11, hk11, rfl, rfl⟩
        refine V_aload_n hC dX9_found_36 0 rfl ?_
        refine V_iconst hC dX9_found_37 (v := 3) (by decide) ?_
        refine V_calli hC (V_runV hC (rest := [.int (nI k11), .int (nI k10), .int (nI (4 + k9)), .int (nI (40 + k8)), .ref t]) [.int 3] (c_X9_draw l G t m bq la wa ((((e9 + 1) + 1) + 1) + 1) 3 (by decide) (by decide) (by omega)) [0] rfl (by decide) q793 q744 q745 q19 q746 ⟨by decide, by decide, rfl⟩ ⟨by decide, by decide⟩ (ci := 10) rfl (mem_at 0 0 rfl rfl) rfl (Nat.le_of_ble_eq_true rfl) ⟨(by show 10 * k + 0 ≤ 60; omega), (by show 80 * k + 0 ≤ 560; omega)⟩ dX9_found_38) (is := [0]) rfl [1, 2, 3, 4, 5] (rs := [[(bq, .inl (G.2.1 9, k, .inr (.inr (.inr (.inr (rfN k bE))))))], famW k (fun ι => iaP G (bE ι) 5 (bl ι)), [(la, .inl (G.2.1 9, 0, .inr (.inr (.inr (.inr (rfN 0 lA))))))], famW 0 (fun ι => iaP G (lA ι) 2 (lf0 ι)), P9]) rfl (by decide) (by decide) ?_
        rintro _ _ ⟨k12, hk12, rfl, rfl⟩
        refine V_calli hC (V_runV hC (rest := []) [.int (nI (40 + k8)), .int (nI (4 + k9)), .int (nI k10), .int (nI k11), .int (nI k12)] (c_X9_block l hl0 G t m bq la wa (((((e9 + 1) + 1) + 1) + 1) + 1) k bE bl bz 0 (fun _ => 0) (fun _ => 0) kS0 0 (fun _ => lz0) P9 (nI (40 + k8)) (nI (4 + k9)) (nI k10) (nI k11) (nI k12) hW (tF_ok hF (by omega)) ⟨inR_nI (M := 200) (by omega), inR_nI (M := 9) (by omega), inR_nI (M := 9) (by omega), inR_nI (M := 9) (by omega), inR_nI (M := 9) (by omega)⟩ (by omega)) [0, 1, 2, 5] rfl (by decide) q794 q795 q796 q19 q797 ⟨by decide, by decide, rfl⟩ ⟨by decide, by decide⟩ (ci := 10) rfl (mem_at 0 0 rfl rfl) rfl (Nat.le_of_ble_eq_true rfl) ⟨(by show 10 * k + 10 ≤ 60; omega), (by show 80 * k + 80 ≤ 560; omega)⟩ dX9_found_41) (is := [0, 1, 2, 5]) rfl [3, 4] (rs := [[(la, .inl (G.2.1 9, 0, .inr (.inr (.inr (.inr (rfN 0 lA))))))], famW 0 (fun ι => iaP G (lA ι) 2 (lf0 ι))]) rfl (by decide) (by decide) ?_
        rintro _ _ ⟨ba213, bA213, P913, rfl, hW13, rfl⟩
        refine V_if_neT hC dX9_found_44 (tgt := 49) (by decide) (by decide) ?_
        refine V_iinc hC dX9_found_49 (v := nI (k + 1)) (L' := [(1, .int (nI (k + 1))), (0, .ref t)]) (j := 1) rfl (nI_1 _) (by decide) rfl ?_
        refine V_goto hC dX9_found_52 (tgt := 2) (by decide) ?_
        refine V_loc (L' := [(0, .ref t), (1, .int (nI (k + 1)))]) [1, 0] rfl ?_
        refine V_sub [0, 1, 2, 4, 5, 3] (by decide) (u := [[(t, .inr (10, [.ref m, .ref (G.2.2 1), .int (nI (((((e9 + 1) + 1) + 1) + 1) + 1)), .ref ba213, .ref la, .ref wa]))], [(ba213, .inl (G.2.1 9, (k + 1), .inr (.inr (.inr (.inr (rfN (k + 1) bA213))))))], famW (k + 1) (fun ι => iaP G (bA213 ι) 5 ((va_up bl k (rw5 (nI (40 + k8)) (nI (4 + k9)) (nI k10) (nI k11) (nI k12))) ι)), [(la, .inl (G.2.1 9, 0, .inr (.inr (.inr (.inr (rfN 0 lA))))))], famW 0 (fun ι => iaP G (lA ι) 2 (lf0 ι)), P913]) rfl ?_
        refine V_widen (show 10 * k + 10 ≤ 10 * (k + 1) by omega) (show 80 * k + 80 ≤ 80 * (k + 1) by omega) ?_
        exact ih (k + 1) _ _ _ _ _ _ _ (by omega) (by omega) (tF_put hF (s := 40 + k8) (a := 4 + k9) (b := k10) (c := k11) (d := k12) (by omega) (by omega) (by omega) (by omega) (by omega)) hW13 (by omega)
  refine V_loc (L' := [(0, .ref t), (1, .int 0)]) [1, 0] rfl ?_
  exact loop1 (4 + 1) 0 d ba bA bl0 (fun _ => bz0) (fun _ => 0) P (by omega) (by omega) tF_0 hP (by omega)
