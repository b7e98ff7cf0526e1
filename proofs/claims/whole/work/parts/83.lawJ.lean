/-! ===== the law: its loop ===== -/
theorem law_next {pP : Program} {l : Launch} {eE : Env} {sS : State} {mM : MethodId} {aA : Array Value} {bB : List Frame} {tT : Method} {cC : Code} {QQ : State → Prop} {G : VG} {AA : Nat → Prop} {scr N : Nat} {xs : Nat → Int32} (hC : VC pP sS mM aA tT cC G AA 9 cL_law "ClinkerWorksLaw") {X M bR yR rR : Nat → Nat} {B T Z : Nat → Nat → Nat} {aw al y ce ha wa o t kc ns i : Nat} (hlk : LawK pP l eE sS mM aA bB tT cC QQ G AA scr X M B T Z aw al y ce ha wa o bR yR rR t kc ns (i + 6) 23) : LawK pP l eE sS mM aA bB tT cC QQ G AA scr X M B T Z aw al y ce ha wa o bR yR rR t kc ns i 1787 := by
  intro th of nb nl du mo cl bz n f g h cm tm C W O S Ct Wt Ot St lz sz wn ws wf fd bm ym Q NC mz ci lb bw mw Nw bl ml Nl li rm ir sh wd hB hK hL hS hW hfd
  refine V_iinc hC dL_law_1787 (v := nI (i + 6)) (L' := [(4, .int (nI (i + 6))), (0, .ref scr), (1, .ref (X 0)), (2, .ref (M 0)), (3, .ref o)]) (j := 4) rfl (by rw [show Int32.ofInt 6 = nI 6 by decide]; exact nI_add i 6) (by decide) rfl ?_
  refine V_goto hC dL_law_1790 (tgt := 23) (by decide) ?_
  refine V_loc (L' := [(0, .ref scr), (1, .ref (X 0)), (2, .ref (M 0)), (3, .ref o), (4, .int (nI (i + 6)))]) [1, 2, 3, 4, 0] rfl ?_
  exact hlk th of nb nl du mo cl bz n f g h cm tm C W O S Ct Wt Ot St lz sz wn ws wf fd bm ym Q NC mz ci lb bw mw Nw bl ml Nl li rm ir sh wd hB hK hL hS hW hfd
set_option maxHeartbeats 4000000 in
set_option maxRecDepth 100000 in
theorem law_head {pP : Program} {l : Launch} {eE : Env} {sS : State} {mM : MethodId} {aA : Array Value} {bB : List Frame} {tT : Method} {cC : Code} {QQ : State → Prop} {G : VG} {AA : Nat → Prop} {scr N : Nat} {xs : Nat → Int32} (hC : VC pP sS mM aA tT cC G AA 9 cL_law "ClinkerWorksLaw") (hl0 : l.stackTraces = false) (hN : NCs sS) (hX : va_X scr N xs sS sS.heap) (hbl : scr < sS.heap.size) (hbA : ¬ AA scr) {X M bR yR rR : Nat → Nat} {B T Z : Nat → Nat → Nat} {aw al y ce ha wa o t kc ns i : Nat} (hi9 : i ≤ N) (hN9 : N ≤ 3072) (ht : t ≤ 512)
    (hEnd : ∀ (ps : List va_W) (L : List (Nat × Value)), V pP l eE room_1 sS mM aA bB tT cC QQ G AA 9 ps kc ns 1794 L [.int 1])
    (hN2 : i + 6 ≤ N → kc + 1090 ≤ 601024 ∧ ns + 11850 ≤ 7293034 ∧ LawK pP l eE sS mM aA bB tT cC QQ G AA scr X M B T Z aw al y ce ha wa o bR yR rR (t + 1) (kc + 1090) (ns + 11850) (i + 6) 23) : LawK pP l eE sS mM aA bB tT cC QQ G AA scr X M B T Z aw al y ce ha wa o bR yR rR t kc ns i 23 := by
  intro th of nb nl du mo cl bz n f g h cm tm C W O S Ct Wt Ot St lz sz wn ws wf fd bm ym Q NC mz ci lb bw mw Nw bl ml Nl li rm ir sh wd hB hK hL hS hW hfd
  refine V_iload hC dL_law_23 4 rfl ?_
  refine V_aload_n hC dL_law_25 0 rfl ?_
  refine V_slen hC hX hbl hbA dL_law_26 ?_
  refine V_bipush hC dL_law_27 (v := 6) (by decide) ?_
  refine V_isub hC dL_law_29 ?_
  refine V_icmp_gt hC dL_law_30 (tgt := 1793) (by decide) (fun h9 => ?_) (fun h9 => ?_)
  · refine V_iconst hC dL_law_1793 (v := 1) (by decide) ?_
    exact hEnd _ _
  · have hle : i + 6 ≤ N := by
      rcases Nat.lt_or_ge N (i + 6) with q | q
      · exfalso
        apply h9
        have e := pk_sub_toInt (a := N) (b := 6) (by omega) (by omega)
        have e2 : (nI i).toInt = i := Int32.toInt_ofNat_of_lt (by omega)
        rw [Int32.lt_iff_toInt_lt, e2]
        show (nI N - nI 6).toInt < (i : Int)
        rw [e]
        omega
      · exact q
    obtain ⟨hk9, hs9, hnx⟩ := hN2 hle
    have hKK := law_next (N := N) (xs := xs) hC hnx
    refine V_aload_n hC dL_law_33 0 rfl ?_
    refine V_iload hC dL_law_34 4 rfl ?_
    refine V_sld hC hX hbl hbA (vp_in_nI (by omega) (by omega)) (x := i) (nI_clamp (by omega)) dL_law_36 ?_
    refine V_bipush hC dL_law_37 (v := 31) (by decide) ?_
    refine V_iand hC dL_law_39 ?_
    obtain ⟨w, hw, ew⟩ := pk_andE (xs i) (m := 31) 5 (by decide)
    refine V_eqi (y := nI w) ew ?_
    have hcase : w = 0 ∨ w = 1 ∨ w = 2 ∨ w = 3 ∨ w = 4 ∨ w = 5 ∨ w = 6 ∨ w = 7 ∨ w = 8 ∨ w = 9 ∨ w = 10 ∨ w = 11 ∨ w = 12 ∨ w = 13 ∨ w = 14 ∨ w = 15 ∨ w = 16 ∨ w = 17 ∨ w = 18 ∨ w = 19 ∨ w = 20 ∨ w = 21 ∨ w = 22 ∨ w = 23 ∨ w = 24 ∨ w = 25 ∨ w = 26 ∨ 27 ≤ w := by omega
    rcases hcase with rfl | rfl | rfl | rfl | rfl | rfl | rfl | rfl | rfl | rfl | rfl | rfl | rfl | rfl | rfl | rfl | rfl | rfl | rfl | rfl | rfl | rfl | rfl | rfl | rfl | rfl | rfl | h27
    · refine V_tabIn hC dL_law_40 (by decide) (by decide) (off := 124) (by decide) (tgt := 164) (by decide) ?_
      exact law_block hC hl0 hN hX hbl hbA hle hN9 ht hk9 hs9 hKK th of nb nl du mo cl bz n f g h cm tm C W O S Ct Wt Ot St lz sz wn ws wf fd bm ym Q NC mz ci lb bw mw Nw bl ml Nl li rm ir sh wd hB hK hL hS hW hfd
    · refine V_tabIn hC dL_law_40 (by decide) (by decide) (off := 228) (by decide) (tgt := 268) (by decide) ?_
      exact law_drill hC hl0 hN hX hbl hbA hle hN9 ht hk9 hs9 hKK th of nb nl du mo cl bz n f g h cm tm C W O S Ct Wt Ot St lz sz wn ws wf fd bm ym Q NC mz ci lb bw mw Nw bl ml Nl li rm ir sh wd hB hK hL hS hW hfd
    · refine V_tabIn hC dL_law_40 (by decide) (by decide) (off := 291) (by decide) (tgt := 331) (by decide) ?_
      exact law_blast hC hl0 hN hX hbl hbA hle hN9 ht hk9 hs9 hKK th of nb nl du mo cl bz n f g h cm tm C W O S Ct Wt Ot St lz sz wn ws wf fd bm ym Q NC mz ci lb bw mw Nw bl ml Nl li rm ir sh wd hB hK hL hS hW hfd
    · refine V_tabIn hC dL_law_40 (by decide) (by decide) (off := 359) (by decide) (tgt := 399) (by decide) ?_
      exact law_charge hC hl0 hN hX hbl hbA hle hN9 ht hk9 hs9 hKK th of nb nl du mo cl bz n f g h cm tm C W O S Ct Wt Ot St lz sz wn ws wf fd bm ym Q NC mz ci lb bw mw Nw bl ml Nl li rm ir sh wd hB hK hL hS hW hfd
    · refine V_tabIn hC dL_law_40 (by decide) (by decide) (off := 451) (by decide) (tgt := 491) (by decide) ?_
      exact law_flame hC hl0 hN hX hbl hbA hle hN9 ht hk9 hs9 hKK th of nb nl du mo cl bz n f g h cm tm C W O S Ct Wt Ot St lz sz wn ws wf fd bm ym Q NC mz ci lb bw mw Nw bl ml Nl li rm ir sh wd hB hK hL hS hW hfd
    · refine V_tabIn hC dL_law_40 (by decide) (by decide) (off := 507) (by decide) (tgt := 547) (by decide) ?_
      exact law_coal hC hl0 hN hX hbl hbA hle hN9 ht hk9 hs9 hKK th of nb nl du mo cl bz n f g h cm tm C W O S Ct Wt Ot St lz sz wn ws wf fd bm ym Q NC mz ci lb bw mw Nw bl ml Nl li rm ir sh wd hB hK hL hS hW hfd
    · refine V_tabIn hC dL_law_40 (by decide) (by decide) (off := 563) (by decide) (tgt := 603) (by decide) ?_
      exact law_run hC hl0 hN hX hbl hbA hle hN9 ht hk9 hs9 hKK th of nb nl du mo cl bz n f g h cm tm C W O S Ct Wt Ot St lz sz wn ws wf fd bm ym Q NC mz ci lb bw mw Nw bl ml Nl li rm ir sh wd hB hK hL hS hW hfd
    · refine V_tabIn hC dL_law_40 (by decide) (by decide) (off := 619) (by decide) (tgt := 659) (by decide) ?_
      exact law_hammer hC hl0 hN hX hbl hbA hle hN9 ht hk9 hs9 hKK th of nb nl du mo cl bz n f g h cm tm C W O S Ct Wt Ot St lz sz wn ws wf fd bm ym Q NC mz ci lb bw mw Nw bl ml Nl li rm ir sh wd hB hK hL hS hW hfd
    · refine V_tabIn hC dL_law_40 (by decide) (by decide) (off := 632) (by decide) (tgt := 672) (by decide) ?_
      exact law_grind hC hl0 hN hX hbl hbA hle hN9 ht hk9 hs9 hKK th of nb nl du mo cl bz n f g h cm tm C W O S Ct Wt Ot St lz sz wn ws wf fd bm ym Q NC mz ci lb bw mw Nw bl ml Nl li rm ir sh wd hB hK hL hS hW hfd
    · refine V_tabIn hC dL_law_40 (by decide) (by decide) (off := 724) (by decide) (tgt := 764) (by decide) ?_
      exact law_sell hC hl0 hN hX hbl hbA hle hN9 ht hk9 hs9 hKK th of nb nl du mo cl bz n f g h cm tm C W O S Ct Wt Ot St lz sz wn ws wf fd bm ym Q NC mz ci lb bw mw Nw bl ml Nl li rm ir sh wd hB hK hL hS hW hfd
    · refine V_tabIn hC dL_law_40 (by decide) (by decide) (off := 792) (by decide) (tgt := 832) (by decide) ?_
      exact law_open hC hl0 hN hX hbl hbA hle hN9 ht hk9 hs9 hKK th of nb nl du mo cl bz n f g h cm tm C W O S Ct Wt Ot St lz sz wn ws wf fd bm ym Q NC mz ci lb bw mw Nw bl ml Nl li rm ir sh wd hB hK hL hS hW hfd
    · refine V_tabIn hC dL_law_40 (by decide) (by decide) (off := 855) (by decide) (tgt := 895) (by decide) ?_
      exact law_cube hC hl0 hN hX hbl hbA hle hN9 ht hk9 hs9 hKK th of nb nl du mo cl bz n f g h cm tm C W O S Ct Wt Ot St lz sz wn ws wf fd bm ym Q NC mz ci lb bw mw Nw bl ml Nl li rm ir sh wd hB hK hL hS hW hfd
    · refine V_tabIn hC dL_law_40 (by decide) (by decide) (off := 923) (by decide) (tgt := 963) (by decide) ?_
      exact law_standard hC hl0 hN hX hbl hbA hle hN9 ht hk9 hs9 hKK th of nb nl du mo cl bz n f g h cm tm C W O S Ct Wt Ot St lz sz wn ws wf fd bm ym Q NC mz ci lb bw mw Nw bl ml Nl li rm ir sh wd hB hK hL hS hW hfd
    · refine V_tabIn hC dL_law_40 (by decide) (by decide) (off := 979) (by decide) (tgt := 1019) (by decide) ?_
      exact law_ofBlock hC hl0 hN hX hbl hbA hle hN9 ht hk9 hs9 hKK th of nb nl du mo cl bz n f g h cm tm C W O S Ct Wt Ot St lz sz wn ws wf fd bm ym Q NC mz ci lb bw mw Nw bl ml Nl li rm ir sh wd hB hK hL hS hW hfd
    · refine V_tabIn hC dL_law_40 (by decide) (by decide) (off := 1047) (by decide) (tgt := 1087) (by decide) ?_
      exact law_ofLayer hC hl0 hN hX hbl hbA hle hN9 ht hk9 hs9 hKK th of nb nl du mo cl bz n f g h cm tm C W O S Ct Wt Ot St lz sz wn ws wf fd bm ym Q NC mz ci lb bw mw Nw bl ml Nl li rm ir sh wd hB hK hL hS hW hfd
    · refine V_tabIn hC dL_law_40 (by decide) (by decide) (off := 1115) (by decide) (tgt := 1155) (by decide) ?_
      exact law_ofCell hC hl0 hN hX hbl hbA hle hN9 ht hk9 hs9 hKK th of nb nl du mo cl bz n f g h cm tm C W O S Ct Wt Ot St lz sz wn ws wf fd bm ym Q NC mz ci lb bw mw Nw bl ml Nl li rm ir sh wd hB hK hL hS hW hfd
    · refine V_tabIn hC dL_law_40 (by decide) (by decide) (off := 1183) (by decide) (tgt := 1223) (by decide) ?_
      exact law_ofLot hC hl0 hN hX hbl hbA hle hN9 ht hk9 hs9 hKK th of nb nl du mo cl bz n f g h cm tm C W O S Ct Wt Ot St lz sz wn ws wf fd bm ym Q NC mz ci lb bw mw Nw bl ml Nl li rm ir sh wd hB hK hL hS hW hfd
    · refine V_tabIn hC dL_law_40 (by decide) (by decide) (off := 1251) (by decide) (tgt := 1291) (by decide) ?_
      exact law_modulus hC hl0 hN hX hbl hbA hle hN9 ht hk9 hs9 hKK th of nb nl du mo cl bz n f g h cm tm C W O S Ct Wt Ot St lz sz wn ws wf fd bm ym Q NC mz ci lb bw mw Nw bl ml Nl li rm ir sh wd hB hK hL hS hW hfd
    · refine V_tabIn hC dL_law_40 (by decide) (by decide) (off := 1319) (by decide) (tgt := 1359) (by decide) ?_
      exact law_row hC hl0 hN hX hbl hbA hle hN9 ht hk9 hs9 hKK th of nb nl du mo cl bz n f g h cm tm C W O S Ct Wt Ot St lz sz wn ws wf fd bm ym Q NC mz ci lb bw mw Nw bl ml Nl li rm ir sh wd hB hK hL hS hW hfd
    · refine V_tabIn hC dL_law_40 (by decide) (by decide) (off := 1387) (by decide) (tgt := 1427) (by decide) ?_
      exact law_many hC hl0 hN hX hbl hbA hle hN9 ht hk9 hs9 hKK th of nb nl du mo cl bz n f g h cm tm C W O S Ct Wt Ot St lz sz wn ws wf fd bm ym Q NC mz ci lb bw mw Nw bl ml Nl li rm ir sh wd hB hK hL hS hW hfd
    · refine V_tabIn hC dL_law_40 (by decide) (by decide) (off := 1443) (by decide) (tgt := 1483) (by decide) ?_
      exact law_meanFound hC hl0 hN hX hbl hbA hle hN9 ht hk9 hs9 hKK th of nb nl du mo cl bz n f g h cm tm C W O S Ct Wt Ot St lz sz wn ws wf fd bm ym Q NC mz ci lb bw mw Nw bl ml Nl li rm ir sh wd hB hK hL hS hW hfd
    · refine V_tabIn hC dL_law_40 (by decide) (by decide) (off := 1484) (by decide) (tgt := 1524) (by decide) ?_
      exact law_isConform hC hl0 hN hX hbl hbA hle hN9 ht hk9 hs9 hKK th of nb nl du mo cl bz n f g h cm tm C W O S Ct Wt Ot St lz sz wn ws wf fd bm ym Q NC mz ci lb bw mw Nw bl ml Nl li rm ir sh wd hB hK hL hS hW hfd
    · refine V_tabIn hC dL_law_40 (by decide) (by decide) (off := 1497) (by decide) (tgt := 1537) (by decide) ?_
      exact law_thought hC hl0 hN hX hbl hbA hle hN9 ht hk9 hs9 hKK th of nb nl du mo cl bz n f g h cm tm C W O S Ct Wt Ot St lz sz wn ws wf fd bm ym Q NC mz ci lb bw mw Nw bl ml Nl li rm ir sh wd hB hK hL hS hW hfd
    · refine V_tabIn hC dL_law_40 (by decide) (by decide) (off := 1553) (by decide) (tgt := 1593) (by decide) ?_
      exact law_bestCharge hC hl0 hN hX hbl hbA hle hN9 ht hk9 hs9 hKK th of nb nl du mo cl bz n f g h cm tm C W O S Ct Wt Ot St lz sz wn ws wf fd bm ym Q NC mz ci lb bw mw Nw bl ml Nl li rm ir sh wd hB hK hL hS hW hfd
    · refine V_tabIn hC dL_law_40 (by decide) (by decide) (off := 1609) (by decide) (tgt := 1649) (by decide) ?_
      exact law_freeAfter hC hl0 hN hX hbl hbA hle hN9 ht hk9 hs9 hKK th of nb nl du mo cl bz n f g h cm tm C W O S Ct Wt Ot St lz sz wn ws wf fd bm ym Q NC mz ci lb bw mw Nw bl ml Nl li rm ir sh wd hB hK hL hS hW hfd
    · refine V_tabIn hC dL_law_40 (by decide) (by decide) (off := 1677) (by decide) (tgt := 1717) (by decide) ?_
      exact law_letFall hC hl0 hN hX hbl hbA hle hN9 ht hk9 hs9 hKK th of nb nl du mo cl bz n f g h cm tm C W O S Ct Wt Ot St lz sz wn ws wf fd bm ym Q NC mz ci lb bw mw Nw bl ml Nl li rm ir sh wd hB hK hL hS hW hfd
    · refine V_tabIn hC dL_law_40 (by decide) (by decide) (off := 1733) (by decide) (tgt := 1773) (by decide) ?_
      exact law_digest hC hl0 hN hX hbl hbA hle hN9 ht hk9 hs9 hKK th of nb nl du mo cl bz n f g h cm tm C W O S Ct Wt Ot St lz sz wn ws wf fd bm ym Q NC mz ci lb bw mw Nw bl ml Nl li rm ir sh wd hB hK hL hS hW hfd
    · have hi27 : (nI w).toInt = w := Int32.toInt_ofNat_of_lt (by omega)
      refine V_tabOut hC dL_law_40 (Or.inr (by rw [hi27]; omega)) (tgt := 1787) (by decide) ?_
      exact law_none hC hl0 hN hX hbl hbA hle hN9 ht hk9 hs9 hKK th of nb nl du mo cl bz n f g h cm tm C W O S Ct Wt Ot St lz sz wn ws wf fd bm ym Q NC mz ci lb bw mw Nw bl ml Nl li rm ir sh wd hB hK hL hS hW hfd
/-- the loop, to its end -/
theorem law_loop {pP : Program} {l : Launch} {eE : Env} {sS : State} {mM : MethodId} {aA : Array Value} {bB : List Frame} {tT : Method} {cC : Code} {QQ : State → Prop} {G : VG} {AA : Nat → Prop} {scr N : Nat} {xs : Nat → Int32} (hC : VC pP sS mM aA tT cC G AA 9 cL_law "ClinkerWorksLaw") (hl0 : l.stackTraces = false) (hN : NCs sS) (hX : va_X scr N xs sS sS.heap) (hbl : scr < sS.heap.size) (hbA : ¬ AA scr) {X M bR yR rR : Nat → Nat} {B T Z : Nat → Nat → Nat} {aw al y ce ha wa o : Nat} (hN9 : N ≤ 3072)
    (hEnd : ∀ (kc ns : Nat) (ps : List va_W) (L : List (Nat × Value)), kc ≤ 601024 → ns ≤ 7293034 → V pP l eE room_1 sS mM aA bB tT cC QQ G AA 9 ps kc ns 1794 L [.int 1]) :
    ∀ (fuel t : Nat), 6 * t ≤ N → N < 6 * t + fuel → LawK pP l eE sS mM aA bB tT cC QQ G AA scr X M B T Z aw al y ce ha wa o bR yR rR t (232 + 1090 * t) (1169 + 11850 * t) (6 * t) 23
  | 0, t, h1, h2 => absurd h2 (by omega)
  | fuel + 1, t, h1, h2 => by
    refine law_head hC hl0 hN hX hbl hbA h1 hN9 (by omega) (fun ps L => hEnd _ _ ps L (by omega) (by omega)) (fun hle => ⟨by omega, by omega, ?_⟩)
    have : LawK pP l eE sS mM aA bB tT cC QQ G AA scr X M B T Z aw al y ce ha wa o bR yR rR (t + 1) (232 + 1090 * (t + 1)) (1169 + 11850 * (t + 1)) (6 * (t + 1)) 23 := law_loop hC hl0 hN hX hbl hbA hN9 hEnd fuel (t + 1) (by omega) (by omega)
    rw [show 232 + 1090 * (t + 1) = 232 + 1090 * t + 1090 by omega, show 1169 + 11850 * (t + 1) = 1169 + 11850 * t + 11850 by omega, show 6 * (t + 1) = 6 * t + 6 by omega] at this
    exact this
