/-! ===== the model: what one does ===== -/
theorem moIn_R {x a b : Int32} : (moIn x a b = 0 ↔ ¬ inR a b x) ∧ (¬ moIn x a b = 0 ↔ inR a b x) := by
  rw [moIn_eq]
  unfold mxWithin
  by_cases h : a ≤ x ∧ x ≤ b
  · rw [if_pos h]
    exact ⟨⟨fun e => absurd e (by decide), fun e => absurd h e⟩, ⟨fun _ => h, fun _ e => absurd e (by decide)⟩⟩
  · rw [if_neg h]
    exact ⟨⟨fun _ => h, fun _ => rfl⟩, ⟨fun e => absurd rfl e, fun e => absurd e h⟩⟩
theorem moIn_n {x a b : Int32} (h : moIn x a b = 0) : ¬ inR a b x := moIn_R.1.mp h
theorem moIn_y {x a b : Int32} (h : ¬ moIn x a b = 0) : inR a b x := moIn_R.2.mp h
theorem ix_y {x : Int32} {n : Nat} (h : ¬ ixB x (nI n) = 0) (hn : n < 2 ^ 31 := by omega) : ∃ i : Nat, i < n ∧ x = nI i := ixB_of (ixB01.resolve_left h) hn
theorem coal_ok {c x : Int32} (hc : ∃ a : Nat, a ≤ 999 ∧ c = nI a) : inR 1 (999 - c) x ↔ inR 1 999 x ∧ c + x ≤ 999 := by
  obtain ⟨a, ha, rfl⟩ := hc
  have e : (999 : Int32) - nI a = nI (999 - a) := pk_sub (a := 999) ha
  have k1 : (1 : Int32).toInt = 1 := rfl
  have k9 : (999 : Int32).toInt = 999 := rfl
  rw [e]
  simp only [inR, Int32.le_iff_toInt_le, nI_toInt (show 999 - a < 2 ^ 31 by omega), k1, k9]
  constructor
  · intro ⟨h1, h2⟩
    refine ⟨⟨h1, by omega⟩, ?_⟩
    rw [Int32.toInt_add, nI_toInt (by omega), Int.bmod_eq_of_le (by omega) (by omega)]
    omega
  · intro ⟨⟨h1, h2⟩, h3⟩
    refine ⟨h1, ?_⟩
    rw [Int32.toInt_add, nI_toInt (by omega), Int.bmod_eq_of_le (by omega) (by omega)] at h3
    omega
theorem dec_nn {p : Prop} [Decidable p] (h : ¬ ¬ p) : p := Decidable.not_not.mp h
set_option maxHeartbeats 4000000 in
set_option maxRecDepth 100000 in
/-- ClinkerWorksModel.flame -/
theorem c_X11_flame (l : Launch) (G : VG) (M : Nat → Nat) (th du mny cl ws : Int32) (nb ny fd aw al y : Nat) (ce ha wa : Nat) (S : KS) (x : Int32) : Mi l G yX11_flame cX11_flame 3 .int 1 22 0 0 [.ref (M 0), .int x] [[(M 0, .inr (12, [.int th, .ref (M 1), .ref (M 2), .ref aw, .ref al, .ref (M 3), .ref (M 4), .ref (M 5), .ref (M 6), .ref y, .int (nI nb), .int (nI ny), .int du, .int mny, .int cl, .int (nI fd), .int ws]))], [(y, .inr (11, [.ref ce, .ref ha, .ref wa, .int (S.1 0), .int (S.1 1), .int (S.1 3), .int (S.1 2), .int (S.1 4), .int (S.1 5), .int (S.1 6)]))]] (fun r v => (∃ tt : Int32, ((tt = 1 ∧ ¬ inR 0 9 x)) ∧ r = 0 ∧ v = [[(M 0, .inr (12, [.int tt, .ref (M 1), .ref (M 2), .ref aw, .ref al, .ref (M 3), .ref (M 4), .ref (M 5), .ref (M 6), .ref y, .int (nI nb), .int (nI ny), .int du, .int mny, .int cl, .int (nI fd), .int ws]))], [(y, .inr (11, [.ref ce, .ref ha, .ref wa, .int (S.1 0), .int (S.1 1), .int (S.1 3), .int (S.1 2), .int (S.1 4), .int (S.1 5), .int (S.1 6)]))]]) ∨ (inR 0 9 x ∧ r = S.1 0 ∧ v = [[(M 0, .inr (12, [.int 0, .ref (M 1), .ref (M 2), .ref aw, .ref al, .ref (M 3), .ref (M 4), .ref (M 5), .ref (M 6), .ref y, .int (nI nb), .int (nI ny), .int du, .int mny, .int cl, .int (nI fd), .int ws]))], [(y, .inr (11, [.ref ce, .ref ha, .ref wa, .int x, .int (S.1 1), .int (S.1 3), .int (S.1 2), .int (S.1 4), .int (S.1 5), .int (S.1 6)]))]])) := by
  refine Mi_of (by decide) (Nat.le_of_ble_eq_true rfl) (fun pP eE sS mM aA bB tT cC AA QQ hC hr hnm hQ => ?_)
  refine V_aload_n hC dX11_flame_0 0 rfl ?_
  refine V_iconst hC dX11_flame_1 (v := 0) (by decide) ?_
  refine V_put hC dX11_flame_2 inAX11 tyX11 tyX11_ok nmX11 0 0 rfl rfl rfl 0 (by decide) q1078 rfl rfl (rfl) (rfl) (Nat.le_of_ble_eq_true rfl) (ps' := [[(M 0, .inr (12, [.int 0, .ref (M 1), .ref (M 2), .ref aw, .ref al, .ref (M 3), .ref (M 4), .ref (M 5), .ref (M 6), .ref y, .int (nI nb), .int (nI ny), .int du, .int mny, .int cl, .int (nI fd), .int ws]))], [(y, .inr (11, [.ref ce, .ref ha, .ref wa, .int (S.1 0), .int (S.1 1), .int (S.1 3), .int (S.1 2), .int (S.1 4), .int (S.1 5), .int (S.1 6)]))]]) rfl ?_
  refine V_iload_n hC dX11_flame_5 1 rfl ?_
  refine V_iconst hC dX11_flame_6 (v := 0) (by decide) ?_
  refine V_bipush hC dX11_flame_7 (v := 9) (by decide) ?_
  refine V_calli hC (V_runS hC (rest := []) [.int x, .int 0, .int 9] (c_X11_in l G x 0 9) [] rfl (by decide) q1138 q1139 q52 q1140 ⟨by decide, by decide, rfl⟩ ⟨by decide, by decide⟩ rfl (Nat.le_of_ble_eq_true rfl) ⟨by decide, by decide⟩ dX11_flame_9) (is := []) rfl [0, 1] (rs := [[(M 0, .inr (12, [.int 0, .ref (M 1), .ref (M 2), .ref aw, .ref al, .ref (M 3), .ref (M 4), .ref (M 5), .ref (M 6), .ref y, .int (nI nb), .int (nI ny), .int du, .int mny, .int cl, .int (nI fd), .int ws]))], [(y, .inr (11, [.ref ce, .ref ha, .ref wa, .int (S.1 0), .int (S.1 1), .int (S.1 3), .int (S.1 2), .int (S.1 4), .int (S.1 5), .int (S.1 6)]))]]) rfl (by decide) (by decide) ?_
  rintro _ _ ⟨rfl, rfl⟩
  refine V_if_ne hC dX11_flame_12 (tgt := 21) (by decide) (fun h1 => ?_) (fun h1 => ?_)
  · refine V_aload_n hC dX11_flame_21 0 rfl ?_
    refine V_get hC dX11_flame_22 inAX11 (mem_at 0 0 rfl rfl) rfl 9 (by decide) q1087 rfl (v := .ref y) rfl ?_
    refine V_get hC dX11_flame_25 inAX10 (mem_at 1 0 rfl rfl) rfl 3 (by decide) q1044 rfl (v := .int (S.1 0)) rfl ?_
    refine V_istore_n hC dX11_flame_28 (L' := [(2, .int (S.1 0)), (0, .ref (M 0)), (1, .int x)]) (by decide) rfl ?_
    refine V_aload_n hC dX11_flame_29 1 rfl ?_
    refine V_get hC dX11_flame_30 inAX11 (mem_at 0 0 rfl rfl) rfl 9 (by decide) q1087 rfl (v := .ref y) rfl ?_
    refine V_iload_n hC dX11_flame_33 2 rfl ?_
    refine V_put hC dX11_flame_34 inAX10 tyX10 tyX10_ok nmX10 1 0 rfl rfl rfl 3 (by decide) q1044 rfl rfl (rfl) (rfl) (Nat.le_of_ble_eq_true rfl) (ps' := [[(M 0, .inr (12, [.int 0, .ref (M 1), .ref (M 2), .ref aw, .ref al, .ref (M 3), .ref (M 4), .ref (M 5), .ref (M 6), .ref y, .int (nI nb), .int (nI ny), .int du, .int mny, .int cl, .int (nI fd), .int ws]))], [(y, .inr (11, [.ref ce, .ref ha, .ref wa, .int x, .int (S.1 1), .int (S.1 3), .int (S.1 2), .int (S.1 4), .int (S.1 5), .int (S.1 6)]))]]) rfl ?_
    refine V_iload_n hC dX11_flame_37 0 rfl ?_
    exact V_iret hC hQ hr [0, 1] (u := [[(M 0, .inr (12, [.int 0, .ref (M 1), .ref (M 2), .ref aw, .ref al, .ref (M 3), .ref (M 4), .ref (M 5), .ref (M 6), .ref y, .int (nI nb), .int (nI ny), .int du, .int mny, .int cl, .int (nI fd), .int ws]))], [(y, .inr (11, [.ref ce, .ref ha, .ref wa, .int x, .int (S.1 1), .int (S.1 3), .int (S.1 2), .int (S.1 4), .int (S.1 5), .int (S.1 6)]))]]) (by decide) rfl (by decide) (by decide) dX11_flame_38 (Or.inr ⟨moIn_y h1, rfl, rfl⟩)
  · refine V_aload_n hC dX11_flame_15 0 rfl ?_
    refine V_iconst hC dX11_flame_16 (v := 1) (by decide) ?_
    refine V_calli hC (V_runV hC (rest := []) [.int 1] (c_X11_no l G M 0 du mny cl ws nb ny fd aw al y 1) [0] rfl (by decide) q1141 q1143 q20 q52 q1144 ⟨by decide, by decide, rfl⟩ ⟨by decide, by decide⟩ (ci := 12) rfl (mem_at 0 0 rfl rfl) rfl (Nat.le_of_ble_eq_true rfl) ⟨by decide, by decide⟩ dX11_flame_17) (is := [0]) rfl [1] (rs := [[(y, .inr (11, [.ref ce, .ref ha, .ref wa, .int (S.1 0), .int (S.1 1), .int (S.1 3), .int (S.1 2), .int (S.1 4), .int (S.1 5), .int (S.1 6)]))]]) rfl (by decide) (by decide) ?_
    rintro _ _ ⟨rfl, rfl⟩
    exact V_iret hC hQ hr [0, 1] (u := [[(M 0, .inr (12, [.int 1, .ref (M 1), .ref (M 2), .ref aw, .ref al, .ref (M 3), .ref (M 4), .ref (M 5), .ref (M 6), .ref y, .int (nI nb), .int (nI ny), .int du, .int mny, .int cl, .int (nI fd), .int ws]))], [(y, .inr (11, [.ref ce, .ref ha, .ref wa, .int (S.1 0), .int (S.1 1), .int (S.1 3), .int (S.1 2), .int (S.1 4), .int (S.1 5), .int (S.1 6)]))]]) (by decide) rfl (by decide) (by decide) dX11_flame_20 (Or.inl ⟨1, ⟨rfl, moIn_n h1⟩, rfl, rfl⟩)
set_option maxHeartbeats 4000000 in
set_option maxRecDepth 100000 in
/-- ClinkerWorksModel.standard -/
theorem c_X11_standard (l : Launch) (G : VG) (M : Nat → Nat) (th du mny cl ws : Int32) (nb ny fd aw al y : Nat) (x : Int32) : Mi l G yX11_standard cX11_standard 3 .int 1 22 0 0 [.ref (M 0), .int x] [[(M 0, .inr (12, [.int th, .ref (M 1), .ref (M 2), .ref aw, .ref al, .ref (M 3), .ref (M 4), .ref (M 5), .ref (M 6), .ref y, .int (nI nb), .int (nI ny), .int du, .int mny, .int cl, .int (nI fd), .int ws]))]] (fun r v => (∃ tt : Int32, ((tt = 1 ∧ ¬ inR 0 99 x)) ∧ r = 0 ∧ v = [[(M 0, .inr (12, [.int tt, .ref (M 1), .ref (M 2), .ref aw, .ref al, .ref (M 3), .ref (M 4), .ref (M 5), .ref (M 6), .ref y, .int (nI nb), .int (nI ny), .int du, .int mny, .int cl, .int (nI fd), .int ws]))]]) ∨ (inR 0 99 x ∧ r = ws ∧ v = [[(M 0, .inr (12, [.int 0, .ref (M 1), .ref (M 2), .ref aw, .ref al, .ref (M 3), .ref (M 4), .ref (M 5), .ref (M 6), .ref y, .int (nI nb), .int (nI ny), .int du, .int mny, .int cl, .int (nI fd), .int x]))]])) := by
  refine Mi_of (by decide) (Nat.le_of_ble_eq_true rfl) (fun pP eE sS mM aA bB tT cC AA QQ hC hr hnm hQ => ?_)
  refine V_aload_n hC dX11_standard_0 0 rfl ?_
  refine V_iconst hC dX11_standard_1 (v := 0) (by decide) ?_
  refine V_put hC dX11_standard_2 inAX11 tyX11 tyX11_ok nmX11 0 0 rfl rfl rfl 0 (by decide) q1078 rfl rfl (rfl) (rfl) (Nat.le_of_ble_eq_true rfl) (ps' := [[(M 0, .inr (12, [.int 0, .ref (M 1), .ref (M 2), .ref aw, .ref al, .ref (M 3), .ref (M 4), .ref (M 5), .ref (M 6), .ref y, .int (nI nb), .int (nI ny), .int du, .int mny, .int cl, .int (nI fd), .int ws]))]]) rfl ?_
  refine V_iload_n hC dX11_standard_5 1 rfl ?_
  refine V_iconst hC dX11_standard_6 (v := 0) (by decide) ?_
  refine V_bipush hC dX11_standard_7 (v := 99) (by decide) ?_
  refine V_calli hC (V_runS hC (rest := []) [.int x, .int 0, .int 99] (c_X11_in l G x 0 99) [] rfl (by decide) q1138 q1139 q52 q1140 ⟨by decide, by decide, rfl⟩ ⟨by decide, by decide⟩ rfl (Nat.le_of_ble_eq_true rfl) ⟨by decide, by decide⟩ dX11_standard_9) (is := []) rfl [0] (rs := [[(M 0, .inr (12, [.int 0, .ref (M 1), .ref (M 2), .ref aw, .ref al, .ref (M 3), .ref (M 4), .ref (M 5), .ref (M 6), .ref y, .int (nI nb), .int (nI ny), .int du, .int mny, .int cl, .int (nI fd), .int ws]))]]) rfl (by decide) (by decide) ?_
  rintro _ _ ⟨rfl, rfl⟩
  refine V_if_ne hC dX11_standard_12 (tgt := 21) (by decide) (fun h1 => ?_) (fun h1 => ?_)
  · refine V_aload_n hC dX11_standard_21 0 rfl ?_
    refine V_get hC dX11_standard_22 inAX11 (mem_at 0 0 rfl rfl) rfl 16 (by decide) q1094 rfl (v := .int ws) rfl ?_
    refine V_istore_n hC dX11_standard_25 (L' := [(2, .int ws), (0, .ref (M 0)), (1, .int x)]) (by decide) rfl ?_
    refine V_aload_n hC dX11_standard_26 1 rfl ?_
    refine V_iload_n hC dX11_standard_27 2 rfl ?_
    refine V_put hC dX11_standard_28 inAX11 tyX11 tyX11_ok nmX11 0 0 rfl rfl rfl 16 (by decide) q1094 rfl rfl (rfl) (rfl) (Nat.le_of_ble_eq_true rfl) (ps' := [[(M 0, .inr (12, [.int 0, .ref (M 1), .ref (M 2), .ref aw, .ref al, .ref (M 3), .ref (M 4), .ref (M 5), .ref (M 6), .ref y, .int (nI nb), .int (nI ny), .int du, .int mny, .int cl, .int (nI fd), .int x]))]]) rfl ?_
    refine V_iload_n hC dX11_standard_31 0 rfl ?_
    exact V_iret hC hQ hr [0] (u := [[(M 0, .inr (12, [.int 0, .ref (M 1), .ref (M 2), .ref aw, .ref al, .ref (M 3), .ref (M 4), .ref (M 5), .ref (M 6), .ref y, .int (nI nb), .int (nI ny), .int du, .int mny, .int cl, .int (nI fd), .int x]))]]) (by decide) rfl (by decide) (by decide) dX11_standard_32 (Or.inr ⟨moIn_y h1, rfl, rfl⟩)
  · refine V_aload_n hC dX11_standard_15 0 rfl ?_
    refine V_iconst hC dX11_standard_16 (v := 1) (by decide) ?_
    refine V_calli hC (V_runV hC (rest := []) [.int 1] (c_X11_no l G M 0 du mny cl ws nb ny fd aw al y 1) [0] rfl (by decide) q1141 q1143 q20 q52 q1144 ⟨by decide, by decide, rfl⟩ ⟨by decide, by decide⟩ (ci := 12) rfl (mem_at 0 0 rfl rfl) rfl (Nat.le_of_ble_eq_true rfl) ⟨by decide, by decide⟩ dX11_standard_17) (is := [0]) rfl [] (rs := []) rfl (by decide) (by decide) ?_
    rintro _ _ ⟨rfl, rfl⟩
    exact V_iret hC hQ hr [0] (u := [[(M 0, .inr (12, [.int 1, .ref (M 1), .ref (M 2), .ref aw, .ref al, .ref (M 3), .ref (M 4), .ref (M 5), .ref (M 6), .ref y, .int (nI nb), .int (nI ny), .int du, .int mny, .int cl, .int (nI fd), .int ws]))]]) (by decide) rfl (by decide) (by decide) dX11_standard_20 (Or.inl ⟨1, ⟨rfl, moIn_n h1⟩, rfl, rfl⟩)
set_option maxHeartbeats 4000000 in
set_option maxRecDepth 100000 in
/-- ClinkerWorksModel.hammer -/
theorem c_X11_hammer (l : Launch) (G : VG) (M : Nat → Nat) (th du mny cl ws : Int32) (nb ny fd aw al y : Nat) (ce ha wa : Nat) (S : KS) : Mi l G yX11_hammer cX11_hammer 2 .int 0 0 0 0 [.ref (M 0)] [[(M 0, .inr (12, [.int th, .ref (M 1), .ref (M 2), .ref aw, .ref al, .ref (M 3), .ref (M 4), .ref (M 5), .ref (M 6), .ref y, .int (nI nb), .int (nI ny), .int du, .int mny, .int cl, .int (nI fd), .int ws]))], [(y, .inr (11, [.ref ce, .ref ha, .ref wa, .int (S.1 0), .int (S.1 1), .int (S.1 3), .int (S.1 2), .int (S.1 4), .int (S.1 5), .int (S.1 6)]))]] (fun r v => (r = S.1 2 ∧ v = [[(M 0, .inr (12, [.int 0, .ref (M 1), .ref (M 2), .ref aw, .ref al, .ref (M 3), .ref (M 4), .ref (M 5), .ref (M 6), .ref y, .int (nI nb), .int (nI ny), .int du, .int mny, .int cl, .int (nI fd), .int ws]))], [(y, .inr (11, [.ref ce, .ref ha, .ref wa, .int (S.1 0), .int (S.1 1), .int (S.1 3), .int 0, .int (S.1 4), .int (S.1 5), .int (S.1 6)]))]])) := by
  refine Mi_of (by decide) (Nat.le_of_ble_eq_true rfl) (fun pP eE sS mM aA bB tT cC AA QQ hC hr hnm hQ => ?_)
  refine V_aload_n hC dX11_hammer_0 0 rfl ?_
  refine V_iconst hC dX11_hammer_1 (v := 0) (by decide) ?_
  refine V_put hC dX11_hammer_2 inAX11 tyX11 tyX11_ok nmX11 0 0 rfl rfl rfl 0 (by decide) q1078 rfl rfl (rfl) (rfl) (Nat.le_of_ble_eq_true rfl) (ps' := [[(M 0, .inr (12, [.int 0, .ref (M 1), .ref (M 2), .ref aw, .ref al, .ref (M 3), .ref (M 4), .ref (M 5), .ref (M 6), .ref y, .int (nI nb), .int (nI ny), .int du, .int mny, .int cl, .int (nI fd), .int ws]))], [(y, .inr (11, [.ref ce, .ref ha, .ref wa, .int (S.1 0), .int (S.1 1), .int (S.1 3), .int (S.1 2), .int (S.1 4), .int (S.1 5), .int (S.1 6)]))]]) rfl ?_
  refine V_aload_n hC dX11_hammer_5 0 rfl ?_
  refine V_get hC dX11_hammer_6 inAX11 (mem_at 0 0 rfl rfl) rfl 9 (by decide) q1087 rfl (v := .ref y) rfl ?_
  refine V_get hC dX11_hammer_9 inAX10 (mem_at 1 0 rfl rfl) rfl 6 (by decide) q1050 rfl (v := .int (S.1 2)) rfl ?_
  refine V_istore_n hC dX11_hammer_12 (L' := [(1, .int (S.1 2)), (0, .ref (M 0))]) (by decide) rfl ?_
  refine V_aload_n hC dX11_hammer_13 1 rfl ?_
  refine V_get hC dX11_hammer_14 inAX11 (mem_at 0 0 rfl rfl) rfl 9 (by decide) q1087 rfl (v := .ref y) rfl ?_
  refine V_iconst hC dX11_hammer_17 (v := 0) (by decide) ?_
  refine V_put hC dX11_hammer_18 inAX10 tyX10 tyX10_ok nmX10 1 0 rfl rfl rfl 6 (by decide) q1050 rfl rfl (rfl) (rfl) (Nat.le_of_ble_eq_true rfl) (ps' := [[(M 0, .inr (12, [.int 0, .ref (M 1), .ref (M 2), .ref aw, .ref al, .ref (M 3), .ref (M 4), .ref (M 5), .ref (M 6), .ref y, .int (nI nb), .int (nI ny), .int du, .int mny, .int cl, .int (nI fd), .int ws]))], [(y, .inr (11, [.ref ce, .ref ha, .ref wa, .int (S.1 0), .int (S.1 1), .int (S.1 3), .int 0, .int (S.1 4), .int (S.1 5), .int (S.1 6)]))]]) rfl ?_
  refine V_iload_n hC dX11_hammer_21 0 rfl ?_
  exact V_iret hC hQ hr [0, 1] (u := [[(M 0, .inr (12, [.int 0, .ref (M 1), .ref (M 2), .ref aw, .ref al, .ref (M 3), .ref (M 4), .ref (M 5), .ref (M 6), .ref y, .int (nI nb), .int (nI ny), .int du, .int mny, .int cl, .int (nI fd), .int ws]))], [(y, .inr (11, [.ref ce, .ref ha, .ref wa, .int (S.1 0), .int (S.1 1), .int (S.1 3), .int 0, .int (S.1 4), .int (S.1 5), .int (S.1 6)]))]]) (by decide) rfl (by decide) (by decide) dX11_hammer_22 (⟨rfl, rfl⟩)
set_option maxHeartbeats 4000000 in
set_option maxRecDepth 100000 in
/-- ClinkerWorksModel.coal -/
theorem c_X11_coal (l : Launch) (G : VG) (M : Nat → Nat) (th du mny cl ws : Int32) (nb ny fd aw al y : Nat) (ce ha wa : Nat) (S : KS) (x : Int32) (hco : ∃ a : Nat, a ≤ 999 ∧ S.1 1 = nI a) : Mi l G yX11_coal cX11_coal 2 .int 1 22 0 0 [.ref (M 0), .int x] [[(M 0, .inr (12, [.int th, .ref (M 1), .ref (M 2), .ref aw, .ref al, .ref (M 3), .ref (M 4), .ref (M 5), .ref (M 6), .ref y, .int (nI nb), .int (nI ny), .int du, .int mny, .int cl, .int (nI fd), .int ws]))], [(y, .inr (11, [.ref ce, .ref ha, .ref wa, .int (S.1 0), .int (S.1 1), .int (S.1 3), .int (S.1 2), .int (S.1 4), .int (S.1 5), .int (S.1 6)]))]] (fun r v => (∃ tt : Int32, ((tt = 1 ∧ ¬ inR 1 (999 - S.1 1) x)) ∧ r = 0 ∧ v = [[(M 0, .inr (12, [.int tt, .ref (M 1), .ref (M 2), .ref aw, .ref al, .ref (M 3), .ref (M 4), .ref (M 5), .ref (M 6), .ref y, .int (nI nb), .int (nI ny), .int du, .int mny, .int cl, .int (nI fd), .int ws]))], [(y, .inr (11, [.ref ce, .ref ha, .ref wa, .int (S.1 0), .int (S.1 1), .int (S.1 3), .int (S.1 2), .int (S.1 4), .int (S.1 5), .int (S.1 6)]))]]) ∨ (inR 1 (999 - S.1 1) x ∧ r = S.1 1 + x ∧ v = [[(M 0, .inr (12, [.int 0, .ref (M 1), .ref (M 2), .ref aw, .ref al, .ref (M 3), .ref (M 4), .ref (M 5), .ref (M 6), .ref y, .int (nI nb), .int (nI ny), .int du, .int mny, .int cl, .int (nI fd), .int ws]))], [(y, .inr (11, [.ref ce, .ref ha, .ref wa, .int (S.1 0), .int (S.1 1 + x), .int (S.1 3), .int (S.1 2), .int (S.1 4), .int (S.1 5), .int (S.1 6)]))]])) := by
  refine Mi_of (by decide) (Nat.le_of_ble_eq_true rfl) (fun pP eE sS mM aA bB tT cC AA QQ hC hr hnm hQ => ?_)
  refine V_aload_n hC dX11_coal_0 0 rfl ?_
  refine V_iconst hC dX11_coal_1 (v := 0) (by decide) ?_
  refine V_put hC dX11_coal_2 inAX11 tyX11 tyX11_ok nmX11 0 0 rfl rfl rfl 0 (by decide) q1078 rfl rfl (rfl) (rfl) (Nat.le_of_ble_eq_true rfl) (ps' := [[(M 0, .inr (12, [.int 0, .ref (M 1), .ref (M 2), .ref aw, .ref al, .ref (M 3), .ref (M 4), .ref (M 5), .ref (M 6), .ref y, .int (nI nb), .int (nI ny), .int du, .int mny, .int cl, .int (nI fd), .int ws]))], [(y, .inr (11, [.ref ce, .ref ha, .ref wa, .int (S.1 0), .int (S.1 1), .int (S.1 3), .int (S.1 2), .int (S.1 4), .int (S.1 5), .int (S.1 6)]))]]) rfl ?_
  refine V_iload_n hC dX11_coal_5 1 rfl ?_
  refine V_iconst hC dX11_coal_6 (v := 1) (by decide) ?_
  refine V_sipush hC dX11_coal_7 (v := 999) (by decide) ?_
  refine V_calli hC (V_runS hC (rest := []) [.int x, .int 1, .int 999] (c_X11_in l G x 1 999) [] rfl (by decide) q1138 q1139 q52 q1140 ⟨by decide, by decide, rfl⟩ ⟨by decide, by decide⟩ rfl (Nat.le_of_ble_eq_true rfl) ⟨by decide, by decide⟩ dX11_coal_10) (is := []) rfl [0, 1] (rs := [[(M 0, .inr (12, [.int 0, .ref (M 1), .ref (M 2), .ref aw, .ref al, .ref (M 3), .ref (M 4), .ref (M 5), .ref (M 6), .ref y, .int (nI nb), .int (nI ny), .int du, .int mny, .int cl, .int (nI fd), .int ws]))], [(y, .inr (11, [.ref ce, .ref ha, .ref wa, .int (S.1 0), .int (S.1 1), .int (S.1 3), .int (S.1 2), .int (S.1 4), .int (S.1 5), .int (S.1 6)]))]]) rfl (by decide) (by decide) ?_
  rintro _ _ ⟨rfl, rfl⟩
  refine V_if_eq hC dX11_coal_13 (tgt := 31) (by decide) (fun h1 => ?_) (fun h1 => ?_)
  · refine V_aload_n hC dX11_coal_31 0 rfl ?_
    refine V_iconst hC dX11_coal_32 (v := 1) (by decide) ?_
    refine V_calli hC (V_runV hC (rest := []) [.int 1] (c_X11_no l G M 0 du mny cl ws nb ny fd aw al y 1) [0] rfl (by decide) q1141 q1143 q20 q52 q1144 ⟨by decide, by decide, rfl⟩ ⟨by decide, by decide⟩ (ci := 12) rfl (mem_at 0 0 rfl rfl) rfl (Nat.le_of_ble_eq_true rfl) ⟨by decide, by decide⟩ dX11_coal_33) (is := [0]) rfl [1] (rs := [[(y, .inr (11, [.ref ce, .ref ha, .ref wa, .int (S.1 0), .int (S.1 1), .int (S.1 3), .int (S.1 2), .int (S.1 4), .int (S.1 5), .int (S.1 6)]))]]) rfl (by decide) (by decide) ?_
    rintro _ _ ⟨rfl, rfl⟩
    exact V_iret hC hQ hr [0, 1] (u := [[(M 0, .inr (12, [.int 1, .ref (M 1), .ref (M 2), .ref aw, .ref al, .ref (M 3), .ref (M 4), .ref (M 5), .ref (M 6), .ref y, .int (nI nb), .int (nI ny), .int du, .int mny, .int cl, .int (nI fd), .int ws]))], [(y, .inr (11, [.ref ce, .ref ha, .ref wa, .int (S.1 0), .int (S.1 1), .int (S.1 3), .int (S.1 2), .int (S.1 4), .int (S.1 5), .int (S.1 6)]))]]) (by decide) rfl (by decide) (by decide) dX11_coal_36 (Or.inl ⟨1, ⟨rfl, fun e => moIn_n h1 ((coal_ok hco).mp e).1⟩, rfl, rfl⟩)
  · refine V_aload_n hC dX11_coal_16 0 rfl ?_
    refine V_get hC dX11_coal_17 inAX11 (mem_at 0 0 rfl rfl) rfl 9 (by decide) q1087 rfl (v := .ref y) rfl ?_
    refine V_get hC dX11_coal_20 inAX10 (mem_at 1 0 rfl rfl) rfl 4 (by decide) q1046 rfl (v := .int (S.1 1)) rfl ?_
    refine V_iload_n hC dX11_coal_23 1 rfl ?_
    refine V_iadd hC dX11_coal_24 ?_
    refine V_sipush hC dX11_coal_25 (v := 999) (by decide) ?_
    refine V_icmp_le hC dX11_coal_28 (tgt := 37) (by decide) (fun h2 => ?_) (fun h2 => ?_)
    · refine V_aload_n hC dX11_coal_37 0 rfl ?_
      refine V_get hC dX11_coal_38 inAX11 (mem_at 0 0 rfl rfl) rfl 9 (by decide) q1087 rfl (v := .ref y) rfl ?_
      refine V_dup hC dX11_coal_41 rfl ?_
      refine V_get hC dX11_coal_42 inAX10 (mem_at 1 0 rfl rfl) rfl 4 (by decide) q1046 rfl (v := .int (S.1 1)) rfl ?_
      refine V_iload_n hC dX11_coal_45 1 rfl ?_
      refine V_iadd hC dX11_coal_46 ?_
      refine V_put hC dX11_coal_47 inAX10 tyX10 tyX10_ok nmX10 1 0 rfl rfl rfl 4 (by decide) q1046 rfl rfl (rfl) (rfl) (Nat.le_of_ble_eq_true rfl) (ps' := [[(M 0, .inr (12, [.int 0, .ref (M 1), .ref (M 2), .ref aw, .ref al, .ref (M 3), .ref (M 4), .ref (M 5), .ref (M 6), .ref y, .int (nI nb), .int (nI ny), .int du, .int mny, .int cl, .int (nI fd), .int ws]))], [(y, .inr (11, [.ref ce, .ref ha, .ref wa, .int (S.1 0), .int ((S.1 1) + x), .int (S.1 3), .int (S.1 2), .int (S.1 4), .int (S.1 5), .int (S.1 6)]))]]) rfl ?_
      refine V_aload_n hC dX11_coal_50 0 rfl ?_
      refine V_get hC dX11_coal_51 inAX11 (mem_at 0 0 rfl rfl) rfl 9 (by decide) q1087 rfl (v := .ref y) rfl ?_
      refine V_get hC dX11_coal_54 inAX10 (mem_at 1 0 rfl rfl) rfl 4 (by decide) q1046 rfl (v := .int ((S.1 1) + x)) rfl ?_
      exact V_iret hC hQ hr [0, 1] (u := [[(M 0, .inr (12, [.int 0, .ref (M 1), .ref (M 2), .ref aw, .ref al, .ref (M 3), .ref (M 4), .ref (M 5), .ref (M 6), .ref y, .int (nI nb), .int (nI ny), .int du, .int mny, .int cl, .int (nI fd), .int ws]))], [(y, .inr (11, [.ref ce, .ref ha, .ref wa, .int (S.1 0), .int ((S.1 1) + x), .int (S.1 3), .int (S.1 2), .int (S.1 4), .int (S.1 5), .int (S.1 6)]))]]) (by decide) rfl (by decide) (by decide) dX11_coal_57 (Or.inr ⟨(coal_ok hco).mpr ⟨moIn_y h1, h2⟩, rfl, rfl⟩)
    · refine V_aload_n hC dX11_coal_31 0 rfl ?_
      refine V_iconst hC dX11_coal_32 (v := 1) (by decide) ?_
      refine V_calli hC (V_runV hC (rest := []) [.int 1] (c_X11_no l G M 0 du mny cl ws nb ny fd aw al y 1) [0] rfl (by decide) q1141 q1143 q20 q52 q1144 ⟨by decide, by decide, rfl⟩ ⟨by decide, by decide⟩ (ci := 12) rfl (mem_at 0 0 rfl rfl) rfl (Nat.le_of_ble_eq_true rfl) ⟨by decide, by decide⟩ dX11_coal_33) (is := [0]) rfl [1] (rs := [[(y, .inr (11, [.ref ce, .ref ha, .ref wa, .int (S.1 0), .int (S.1 1), .int (S.1 3), .int (S.1 2), .int (S.1 4), .int (S.1 5), .int (S.1 6)]))]]) rfl (by decide) (by decide) ?_
      rintro _ _ ⟨rfl, rfl⟩
      exact V_iret hC hQ hr [0, 1] (u := [[(M 0, .inr (12, [.int 1, .ref (M 1), .ref (M 2), .ref aw, .ref al, .ref (M 3), .ref (M 4), .ref (M 5), .ref (M 6), .ref y, .int (nI nb), .int (nI ny), .int du, .int mny, .int cl, .int (nI fd), .int ws]))], [(y, .inr (11, [.ref ce, .ref ha, .ref wa, .int (S.1 0), .int (S.1 1), .int (S.1 3), .int (S.1 2), .int (S.1 4), .int (S.1 5), .int (S.1 6)]))]]) (by decide) rfl (by decide) (by decide) dX11_coal_36 (Or.inl ⟨1, ⟨rfl, fun e => h2 ((coal_ok hco).mp e).2⟩, rfl, rfl⟩)
set_option maxHeartbeats 4000000 in
set_option maxRecDepth 100000 in
/-- ClinkerWorksModel.open -/
theorem c_X11_open (l : Launch) (G : VG) (M : Nat → Nat) (th du mny cl ws : Int32) (nb ny fd aw al y : Nat) (sh : Nat → Int32) (b : Int32) (hsh : ∀ j, j < 2 → sh j = 0 ∨ sh j = 1) : Mi l G yX11_open cX11_open 3 .boolean 1 22 0 0 [.ref (M 0), .int b] [[(M 0, .inr (12, [.int th, .ref (M 1), .ref (M 2), .ref aw, .ref al, .ref (M 3), .ref (M 4), .ref (M 5), .ref (M 6), .ref y, .int (nI nb), .int (nI ny), .int du, .int mny, .int cl, .int (nI fd), .int ws]))], [(M 5, .inl (G.2.1 1, 2, .inl sh))]] (fun r v => (∃ tt : Int32, ((tt = 1 ∧ ¬ inR 0 1 b)) ∧ r = 0 ∧ v = [[(M 0, .inr (12, [.int tt, .ref (M 1), .ref (M 2), .ref aw, .ref al, .ref (M 3), .ref (M 4), .ref (M 5), .ref (M 6), .ref y, .int (nI nb), .int (nI ny), .int du, .int mny, .int cl, .int (nI fd), .int ws]))], [(M 5, .inl (G.2.1 1, 2, .inl sh))]]) ∨ (∃ i : Nat, i < 2 ∧ b = nI i ∧ r = sh i ∧ v = [[(M 0, .inr (12, [.int 0, .ref (M 1), .ref (M 2), .ref aw, .ref al, .ref (M 3), .ref (M 4), .ref (M 5), .ref (M 6), .ref y, .int (nI nb), .int (nI ny), .int du, .int mny, .int cl, .int (nI fd), .int ws]))], [(M 5, .inl (G.2.1 1, 2, .inl (upd sh i 0)))]])) := by
  refine Mi_of (by decide) (Nat.le_of_ble_eq_true rfl) (fun pP eE sS mM aA bB tT cC AA QQ hC hr hnm hQ => ?_)
  refine V_aload_n hC dX11_open_0 0 rfl ?_
  refine V_iconst hC dX11_open_1 (v := 0) (by decide) ?_
  refine V_put hC dX11_open_2 inAX11 tyX11 tyX11_ok nmX11 0 0 rfl rfl rfl 0 (by decide) q1078 rfl rfl (rfl) (rfl) (Nat.le_of_ble_eq_true rfl) (ps' := [[(M 0, .inr (12, [.int 0, .ref (M 1), .ref (M 2), .ref aw, .ref al, .ref (M 3), .ref (M 4), .ref (M 5), .ref (M 6), .ref y, .int (nI nb), .int (nI ny), .int du, .int mny, .int cl, .int (nI fd), .int ws]))], [(M 5, .inl (G.2.1 1, 2, .inl sh))]]) rfl ?_
  refine V_iload_n hC dX11_open_5 1 rfl ?_
  refine V_iconst hC dX11_open_6 (v := 0) (by decide) ?_
  refine V_iconst hC dX11_open_7 (v := 1) (by decide) ?_
  refine V_calli hC (V_runS hC (rest := []) [.int b, .int 0, .int 1] (c_X11_in l G b 0 1) [] rfl (by decide) q1138 q1139 q52 q1140 ⟨by decide, by decide, rfl⟩ ⟨by decide, by decide⟩ rfl (Nat.le_of_ble_eq_true rfl) ⟨by decide, by decide⟩ dX11_open_8) (is := []) rfl [0, 1] (rs := [[(M 0, .inr (12, [.int 0, .ref (M 1), .ref (M 2), .ref aw, .ref al, .ref (M 3), .ref (M 4), .ref (M 5), .ref (M 6), .ref y, .int (nI nb), .int (nI ny), .int du, .int mny, .int cl, .int (nI fd), .int ws]))], [(M 5, .inl (G.2.1 1, 2, .inl sh))]]) rfl (by decide) (by decide) ?_
  rintro _ _ ⟨rfl, rfl⟩
  refine V_if_ne hC dX11_open_11 (tgt := 28) (by decide) (fun h1 => ?_) (fun h1 => ?_)
  · obtain ⟨i, hi, rfl⟩ : ∃ w9 : Nat, w9 < 2 ∧ b = nI w9 := by obtain ⟨w9, hw9, e9⟩ := inR_of (M := 1) (moIn_y h1); exact ⟨w9, by omega, e9⟩
    refine V_aload_n hC dX11_open_28 0 rfl ?_
    refine V_get hC dX11_open_29 inAX11 (mem_at 0 0 rfl rfl) rfl 7 (by decide) q1085 rfl (v := .ref (M 5)) rfl ?_
    refine V_iload_n hC dX11_open_32 1 rfl ?_
    refine V_zald hC dX11_open_33 (mem_at 1 0 rfl rfl) (vp_in_nI (by omega) (by omega)) (x := i) (nI_clamp (by omega)) ?_
    refine V_istore_n hC dX11_open_34 (L' := [(2, .int (sh i)), (0, .ref (M 0)), (1, .int (nI i))]) (by decide) rfl ?_
    refine V_aload_n hC dX11_open_35 1 rfl ?_
    refine V_get hC dX11_open_36 inAX11 (mem_at 0 0 rfl rfl) rfl 7 (by decide) q1085 rfl (v := .ref (M 5)) rfl ?_
    refine V_iload_n hC dX11_open_39 2 rfl ?_
    refine V_iconst hC dX11_open_40 (v := 0) (by decide) ?_
    refine V_zast hC dX11_open_41 1 0 rfl rfl (by decide) (vp_in_nI (by omega) (by omega)) (z := i) (nI_clamp (by omega)) (ps' := [[(M 0, .inr (12, [.int 0, .ref (M 1), .ref (M 2), .ref aw, .ref al, .ref (M 3), .ref (M 4), .ref (M 5), .ref (M 6), .ref y, .int (nI nb), .int (nI ny), .int du, .int mny, .int cl, .int (nI fd), .int ws]))], [(M 5, .inl (G.2.1 1, 2, .inl (upd sh i 0)))]]) rfl ?_
    refine V_iload_n hC dX11_open_42 0 rfl ?_
    exact V_zret hC hQ hr (hsh i hi) [0, 1] (u := [[(M 0, .inr (12, [.int 0, .ref (M 1), .ref (M 2), .ref aw, .ref al, .ref (M 3), .ref (M 4), .ref (M 5), .ref (M 6), .ref y, .int (nI nb), .int (nI ny), .int du, .int mny, .int cl, .int (nI fd), .int ws]))], [(M 5, .inl (G.2.1 1, 2, .inl (upd sh i 0)))]]) (by decide) rfl (by decide) (by decide) dX11_open_43 (Or.inr ⟨i, hi, rfl, rfl, rfl⟩)
  · refine V_aload_n hC dX11_open_14 0 rfl ?_
    refine V_iconst hC dX11_open_15 (v := 1) (by decide) ?_
    refine V_calli hC (V_runV hC (rest := []) [.int 1] (c_X11_no l G M 0 du mny cl ws nb ny fd aw al y 1) [0] rfl (by decide) q1141 q1143 q20 q52 q1144 ⟨by decide, by decide, rfl⟩ ⟨by decide, by decide⟩ (ci := 12) rfl (mem_at 0 0 rfl rfl) rfl (Nat.le_of_ble_eq_true rfl) ⟨by decide, by decide⟩ dX11_open_16) (is := [0]) rfl [1] (rs := [[(M 5, .inl (G.2.1 1, 2, .inl sh))]]) rfl (by decide) (by decide) ?_
    rintro _ _ ⟨rfl, rfl⟩
    refine V_if_leT hC dX11_open_19 (tgt := 26) (by decide) (by decide) ?_
    refine V_iconst hC dX11_open_26 (v := 0) (by decide) ?_
    exact V_zret hC hQ hr (by decide) [0, 1] (u := [[(M 0, .inr (12, [.int 1, .ref (M 1), .ref (M 2), .ref aw, .ref al, .ref (M 3), .ref (M 4), .ref (M 5), .ref (M 6), .ref y, .int (nI nb), .int (nI ny), .int du, .int mny, .int cl, .int (nI fd), .int ws]))], [(M 5, .inl (G.2.1 1, 2, .inl sh))]]) (by decide) rfl (by decide) (by decide) dX11_open_27 (Or.inl ⟨1, ⟨rfl, moIn_n h1⟩, rfl, rfl⟩)
set_option maxHeartbeats 4000000 in
set_option maxRecDepth 100000 in
/-- ClinkerWorksModel.drill -/
theorem c_X11_drill (l : Launch) (G : VG) (M : Nat → Nat) (th du mny cl ws : Int32) (nb ny fd aw al y : Nat) (bR : Nat → Nat) (bm : Nat → Nat → Int32) (b : Int32) (hnb : nb ≤ 6) : Mi l G yX11_drill cX11_drill 3 .boolean 2 43 0 0 [.ref (M 0), .int b] [[(M 0, .inr (12, [.int th, .ref (M 1), .ref (M 2), .ref aw, .ref al, .ref (M 3), .ref (M 4), .ref (M 5), .ref (M 6), .ref y, .int (nI nb), .int (nI ny), .int du, .int mny, .int cl, .int (nI fd), .int ws]))], [(M 1, .inl (G.2.1 9, 6, .inr (.inr (.inr (.inr (rfN 6 bR))))))], famW 6 (fun ι => iaP G (bR ι) 6 (bm ι))] (fun r v => (∃ tt : Int32, ((tt = 1 ∧ ixB b (nI nb) = 0)) ∧ r = 0 ∧ v = [[(M 0, .inr (12, [.int tt, .ref (M 1), .ref (M 2), .ref aw, .ref al, .ref (M 3), .ref (M 4), .ref (M 5), .ref (M 6), .ref y, .int (nI nb), .int (nI ny), .int du, .int mny, .int cl, .int (nI fd), .int ws]))], [(M 1, .inl (G.2.1 9, 6, .inr (.inr (.inr (.inr (rfN 6 bR))))))], famW 6 (fun ι => iaP G (bR ι) 6 (bm ι))]) ∨ (∃ i : Nat, i < nb ∧ b = nI i ∧ r = (if bm i 1 = 0 then 1 else 0) ∧ v = [[(M 0, .inr (12, [.int 0, .ref (M 1), .ref (M 2), .ref aw, .ref al, .ref (M 3), .ref (M 4), .ref (M 5), .ref (M 6), .ref y, .int (nI nb), .int (nI ny), .int du, .int mny, .int cl, .int (nI fd), .int ws]))], [(M 1, .inl (G.2.1 9, 6, .inr (.inr (.inr (.inr (rfN 6 bR))))))], famW 6 (fun ι => iaP G (bR ι) 6 ((va_up bm i (upd (bm i) 1 1)) ι))])) := by
  refine Mi_of (by decide) (Nat.le_of_ble_eq_true rfl) (fun pP eE sS mM aA bB tT cC AA QQ hC hr hnm hQ => ?_)
  refine V_aload_n hC dX11_drill_0 0 rfl ?_
  refine V_iconst hC dX11_drill_1 (v := 0) (by decide) ?_
  refine V_put hC dX11_drill_2 inAX11 tyX11 tyX11_ok nmX11 0 0 rfl rfl rfl 0 (by decide) q1078 rfl rfl (rfl) (rfl) (Nat.le_of_ble_eq_true rfl) (ps' := [[(M 0, .inr (12, [.int 0, .ref (M 1), .ref (M 2), .ref aw, .ref al, .ref (M 3), .ref (M 4), .ref (M 5), .ref (M 6), .ref y, .int (nI nb), .int (nI ny), .int du, .int mny, .int cl, .int (nI fd), .int ws]))], [(M 1, .inl (G.2.1 9, 6, .inr (.inr (.inr (.inr (rfN 6 bR))))))], famW 6 (fun ι => iaP G (bR ι) 6 (bm ι))]) rfl ?_
  refine V_aload_n hC dX11_drill_5 0 rfl ?_
  refine V_iload_n hC dX11_drill_6 1 rfl ?_
  refine V_calli hC (V_runV hC (rest := []) [.int b] (c_X11_isBlock l G M 0 du mny cl ws nb ny fd aw al y b (by omega)) [0] rfl (by decide) q1152 q1154 q21 q52 q1155 ⟨by decide, by decide, rfl⟩ ⟨by decide, by decide⟩ (ci := 12) rfl (mem_at 0 0 rfl rfl) rfl (Nat.le_of_ble_eq_true rfl) ⟨by decide, by decide⟩ dX11_drill_7) (is := [0]) rfl [1, 2] (rs := [[(M 1, .inl (G.2.1 9, 6, .inr (.inr (.inr (.inr (rfN 6 bR))))))], famW 6 (fun ι => iaP G (bR ι) 6 (bm ι))]) rfl (by decide) (by decide) ?_
  rintro _ _ ⟨rfl, rfl⟩
  refine V_if_ne hC dX11_drill_10 (tgt := 27) (by decide) (fun h1 => ?_) (fun h1 => ?_)
  · obtain ⟨i, hi, rfl⟩ := ix_y (n := nb) (by first | exact h1 | exact (fun e => h1 e))
    refine V_aload_n hC dX11_drill_27 0 rfl ?_
    refine V_get hC dX11_drill_28 inAX11 (mem_at 0 0 rfl rfl) rfl 1 (by decide) q1079 rfl (v := .ref (M 1)) rfl ?_
    refine V_iload_n hC dX11_drill_31 1 rfl ?_
    refine V_aaldI hC dX11_drill_32 (mem_at 1 0 rfl rfl) (vp_in_nI (by omega) (by omega)) (x := i) (nI_clamp (by omega)) (b := bR i) (rfN_at ((by omega))) ?_
    refine V_iconst hC dX11_drill_33 (v := 1) (by decide) ?_
    refine V_iald hC dX11_drill_34 (mem_fam 2 0 rfl i ((by omega)) rfl) (vin (by decide)) (x := 1) (by decide) ?_
    refine V_if_ne hC dX11_drill_35 (tgt := 42) (by decide) (fun h2 => ?_) (fun h2 => ?_)
    · refine V_iconst hC dX11_drill_42 (v := 0) (by decide) ?_
      refine V_istore_n hC dX11_drill_43 (L' := [(2, .int 0), (0, .ref (M 0)), (1, .int (nI i))]) (by decide) rfl ?_
      refine V_aload_n hC dX11_drill_44 1 rfl ?_
      refine V_get hC dX11_drill_45 inAX11 (mem_at 0 0 rfl rfl) rfl 1 (by decide) q1079 rfl (v := .ref (M 1)) rfl ?_
      refine V_iload_n hC dX11_drill_48 2 rfl ?_
      refine V_aaldI hC dX11_drill_49 (mem_at 1 0 rfl rfl) (vp_in_nI (by omega) (by omega)) (x := i) (nI_clamp (by omega)) (b := bR i) (rfN_at ((by omega))) ?_
      refine V_iconst hC dX11_drill_50 (v := 1) (by decide) ?_
      refine V_iconst hC dX11_drill_51 (v := 1) (by decide) ?_
      refine V_sub [2, 0, 1] (by decide) (u := [famW 6 (fun ι => iaP G (bR ι) 6 (bm ι)), [(M 0, .inr (12, [.int 0, .ref (M 1), .ref (M 2), .ref aw, .ref al, .ref (M 3), .ref (M 4), .ref (M 5), .ref (M 6), .ref y, .int (nI nb), .int (nI ny), .int du, .int mny, .int cl, .int (nI fd), .int ws]))], [(M 1, .inl (G.2.1 9, 6, .inr (.inr (.inr (.inr (rfN 6 bR))))))]]) rfl ?_
      refine V_open (i := i) (by omega) ?_
      refine V_iast hC dX11_drill_52 0 0 rfl rfl (vin (by decide)) (z := 1) (by decide) (ps' := [iaP G (bR i) 6 (upd (bm i) 1 1), famX 6 i (fun ι => iaP G (bR ι) 6 (bm ι)), [(M 0, .inr (12, [.int 0, .ref (M 1), .ref (M 2), .ref aw, .ref al, .ref (M 3), .ref (M 4), .ref (M 5), .ref (M 6), .ref y, .int (nI nb), .int (nI ny), .int du, .int mny, .int cl, .int (nI fd), .int ws]))], [(M 1, .inl (G.2.1 9, 6, .inr (.inr (.inr (.inr (rfN 6 bR))))))]]) rfl ?_
      refine V_close (i := i) (g' := fun ι => iaP G (bR ι) 6 ((va_up bm i (upd (bm i) 1 1)) ι)) (by omega) (by simp [va_up]) (fun j _ hne => by simp [va_up, hne]) ?_
      refine V_iload_n hC dX11_drill_53 0 rfl ?_
      exact V_zret hC hQ hr (by decide) [1, 2, 0] (u := [[(M 0, .inr (12, [.int 0, .ref (M 1), .ref (M 2), .ref aw, .ref al, .ref (M 3), .ref (M 4), .ref (M 5), .ref (M 6), .ref y, .int (nI nb), .int (nI ny), .int du, .int mny, .int cl, .int (nI fd), .int ws]))], [(M 1, .inl (G.2.1 9, 6, .inr (.inr (.inr (.inr (rfN 6 bR))))))], famW 6 (fun ι => iaP G (bR ι) 6 ((va_up bm i (upd (bm i) 1 1)) ι))]) (by decide) rfl (by decide) (by decide) dX11_drill_54 (Or.inr ⟨i, hi, rfl, by first | exact (if_pos h2).symm | exact (if_neg h2).symm, rfl⟩)
    · refine V_iconst hC dX11_drill_38 (v := 1) (by decide) ?_
      refine V_goto hC dX11_drill_39 (tgt := 43) (by decide) ?_
      refine V_istore_n hC dX11_drill_43 (L' := [(2, .int 1), (0, .ref (M 0)), (1, .int (nI i))]) (by decide) rfl ?_
      refine V_aload_n hC dX11_drill_44 1 rfl ?_
      refine V_get hC dX11_drill_45 inAX11 (mem_at 0 0 rfl rfl) rfl 1 (by decide) q1079 rfl (v := .ref (M 1)) rfl ?_
      refine V_iload_n hC dX11_drill_48 2 rfl ?_
      refine V_aaldI hC dX11_drill_49 (mem_at 1 0 rfl rfl) (vp_in_nI (by omega) (by omega)) (x := i) (nI_clamp (by omega)) (b := bR i) (rfN_at ((by omega))) ?_
      refine V_iconst hC dX11_drill_50 (v := 1) (by decide) ?_
      refine V_iconst hC dX11_drill_51 (v := 1) (by decide) ?_
      refine V_sub [2, 0, 1] (by decide) (u := [famW 6 (fun ι => iaP G (bR ι) 6 (bm ι)), [(M 0, .inr (12, [.int 0, .ref (M 1), .ref (M 2), .ref aw, .ref al, .ref (M 3), .ref (M 4), .ref (M 5), .ref (M 6), .ref y, .int (nI nb), .int (nI ny), .int du, .int mny, .int cl, .int (nI fd), .int ws]))], [(M 1, .inl (G.2.1 9, 6, .inr (.inr (.inr (.inr (rfN 6 bR))))))]]) rfl ?_
      refine V_open (i := i) (by omega) ?_
      refine V_iast hC dX11_drill_52 0 0 rfl rfl (vin (by decide)) (z := 1) (by decide) (ps' := [iaP G (bR i) 6 (upd (bm i) 1 1), famX 6 i (fun ι => iaP G (bR ι) 6 (bm ι)), [(M 0, .inr (12, [.int 0, .ref (M 1), .ref (M 2), .ref aw, .ref al, .ref (M 3), .ref (M 4), .ref (M 5), .ref (M 6), .ref y, .int (nI nb), .int (nI ny), .int du, .int mny, .int cl, .int (nI fd), .int ws]))], [(M 1, .inl (G.2.1 9, 6, .inr (.inr (.inr (.inr (rfN 6 bR))))))]]) rfl ?_
      refine V_close (i := i) (g' := fun ι => iaP G (bR ι) 6 ((va_up bm i (upd (bm i) 1 1)) ι)) (by omega) (by simp [va_up]) (fun j _ hne => by simp [va_up, hne]) ?_
      refine V_iload_n hC dX11_drill_53 0 rfl ?_
      exact V_zret hC hQ hr (by decide) [1, 2, 0] (u := [[(M 0, .inr (12, [.int 0, .ref (M 1), .ref (M 2), .ref aw, .ref al, .ref (M 3), .ref (M 4), .ref (M 5), .ref (M 6), .ref y, .int (nI nb), .int (nI ny), .int du, .int mny, .int cl, .int (nI fd), .int ws]))], [(M 1, .inl (G.2.1 9, 6, .inr (.inr (.inr (.inr (rfN 6 bR))))))], famW 6 (fun ι => iaP G (bR ι) 6 ((va_up bm i (upd (bm i) 1 1)) ι))]) (by decide) rfl (by decide) (by decide) dX11_drill_54 (Or.inr ⟨i, hi, rfl, by first | exact (if_pos h2).symm | exact (if_neg h2).symm, rfl⟩)
  · refine V_aload_n hC dX11_drill_13 0 rfl ?_
    refine V_iconst hC dX11_drill_14 (v := 1) (by decide) ?_
    refine V_calli hC (V_runV hC (rest := []) [.int 1] (c_X11_no l G M 0 du mny cl ws nb ny fd aw al y 1) [0] rfl (by decide) q1141 q1143 q20 q52 q1144 ⟨by decide, by decide, rfl⟩ ⟨by decide, by decide⟩ (ci := 12) rfl (mem_at 0 0 rfl rfl) rfl (Nat.le_of_ble_eq_true rfl) ⟨by decide, by decide⟩ dX11_drill_15) (is := [0]) rfl [1, 2] (rs := [[(M 1, .inl (G.2.1 9, 6, .inr (.inr (.inr (.inr (rfN 6 bR))))))], famW 6 (fun ι => iaP G (bR ι) 6 (bm ι))]) rfl (by decide) (by decide) ?_
    rintro _ _ ⟨rfl, rfl⟩
    refine V_if_leT hC dX11_drill_18 (tgt := 25) (by decide) (by decide) ?_
    refine V_iconst hC dX11_drill_25 (v := 0) (by decide) ?_
    exact V_zret hC hQ hr (by decide) [0, 1, 2] (u := [[(M 0, .inr (12, [.int 1, .ref (M 1), .ref (M 2), .ref aw, .ref al, .ref (M 3), .ref (M 4), .ref (M 5), .ref (M 6), .ref y, .int (nI nb), .int (nI ny), .int du, .int mny, .int cl, .int (nI fd), .int ws]))], [(M 1, .inl (G.2.1 9, 6, .inr (.inr (.inr (.inr (rfN 6 bR))))))], famW 6 (fun ι => iaP G (bR ι) 6 (bm ι))]) (by decide) rfl (by decide) (by decide) dX11_drill_26 (Or.inl ⟨1, ⟨rfl, by first | exact h1 | exact dec_nn h1⟩, rfl, rfl⟩)
set_option maxHeartbeats 4000000 in
set_option maxRecDepth 100000 in
/-- ClinkerWorksModel.block -/
theorem c_X11_block (l : Launch) (G : VG) (M : Nat → Nat) (th du mny cl ws : Int32) (nb ny fd aw al y : Nat) (bR : Nat → Nat) (bm : Nat → Nat → Int32) (s0 v0 v1 v2 v3 : Int32) (hnb : nb ≤ 6) : Mi l G yX11_block cX11_block 7 .int 1 30 1 6 [.ref (M 0), .int s0, .int v0, .int v1, .int v2, .int v3] [[(M 0, .inr (12, [.int th, .ref (M 1), .ref (M 2), .ref aw, .ref al, .ref (M 3), .ref (M 4), .ref (M 5), .ref (M 6), .ref y, .int (nI nb), .int (nI ny), .int du, .int mny, .int cl, .int (nI fd), .int ws]))], [(M 1, .inl (G.2.1 9, 6, .inr (.inr (.inr (.inr (rfN 6 bR))))))], famW 6 (fun ι => iaP G (bR ι) 6 (bm ι))] (fun r v => (∃ tt : Int32, ((tt = 1 ∧ ¬ bkOk s0 v0 v1 v2 v3) ∨ (tt = 2 ∧ bkOk s0 v0 v1 v2 v3 ∧ nb = 6)) ∧ r = 0 ∧ v = [[(M 0, .inr (12, [.int tt, .ref (M 1), .ref (M 2), .ref aw, .ref al, .ref (M 3), .ref (M 4), .ref (M 5), .ref (M 6), .ref y, .int (nI nb), .int (nI ny), .int du, .int mny, .int cl, .int (nI fd), .int ws]))], [(M 1, .inl (G.2.1 9, 6, .inr (.inr (.inr (.inr (rfN 6 bR))))))], famW 6 (fun ι => iaP G (bR ι) 6 (bm ι))]) ∨ (bkOk s0 v0 v1 v2 v3 ∧ nb < 6 ∧ r = nI nb ∧ v = [[(M 0, .inr (12, [.int 0, .ref (M 1), .ref (M 2), .ref aw, .ref al, .ref (M 3), .ref (M 4), .ref (M 5), .ref (M 6), .ref y, .int (nI (nb + 1)), .int (nI ny), .int du, .int mny, .int cl, .int (nI fd), .int ws]))], [(M 1, .inl (G.2.1 9, 6, .inr (.inr (.inr (.inr (rfN 6 bR))))))], famW 6 (fun ι => iaP G (bR ι) 6 ((va_up bm nb (va_cpy (upd (upd (upd (upd (upd (upd (fun _ => 0) 0 s0) 1 0) 2 v0) 3 v1) 4 v2) 5 v3) (bm nb) 0 0 6)) ι))])) := by
  refine Mi_of (by decide) (Nat.le_of_ble_eq_true rfl) (fun pP eE sS mM aA bB tT cC AA QQ hC hr hnm hQ => ?_)
  refine V_aload_n hC dX11_block_0 0 rfl ?_
  refine V_iconst hC dX11_block_1 (v := 0) (by decide) ?_
  refine V_put hC dX11_block_2 inAX11 tyX11 tyX11_ok nmX11 0 0 rfl rfl rfl 0 (by decide) q1078 rfl rfl (rfl) (rfl) (Nat.le_of_ble_eq_true rfl) (ps' := [[(M 0, .inr (12, [.int 0, .ref (M 1), .ref (M 2), .ref aw, .ref al, .ref (M 3), .ref (M 4), .ref (M 5), .ref (M 6), .ref y, .int (nI nb), .int (nI ny), .int du, .int mny, .int cl, .int (nI fd), .int ws]))], [(M 1, .inl (G.2.1 9, 6, .inr (.inr (.inr (.inr (rfN 6 bR))))))], famW 6 (fun ι => iaP G (bR ι) 6 (bm ι))]) rfl ?_
  refine V_iload_n hC dX11_block_5 1 rfl ?_
  refine V_iconst hC dX11_block_6 (v := 0) (by decide) ?_
  refine V_sipush hC dX11_block_7 (v := 200) (by decide) ?_
  refine V_calli hC (V_runS hC (rest := []) [.int s0, .int 0, .int 200] (c_X11_in l G s0 0 200) [] rfl (by decide) q1138 q1139 q52 q1140 ⟨by decide, by decide, rfl⟩ ⟨by decide, by decide⟩ rfl (Nat.le_of_ble_eq_true rfl) ⟨by decide, by decide⟩ dX11_block_10) (is := []) rfl [0, 1, 2] (rs := [[(M 0, .inr (12, [.int 0, .ref (M 1), .ref (M 2), .ref aw, .ref al, .ref (M 3), .ref (M 4), .ref (M 5), .ref (M 6), .ref y, .int (nI nb), .int (nI ny), .int du, .int mny, .int cl, .int (nI fd), .int ws]))], [(M 1, .inl (G.2.1 9, 6, .inr (.inr (.inr (.inr (rfN 6 bR))))))], famW 6 (fun ι => iaP G (bR ι) 6 (bm ι))]) rfl (by decide) (by decide) ?_
  rintro _ _ ⟨rfl, rfl⟩
  refine V_if_eq hC dX11_block_13 (tgt := 58) (by decide) (fun h1 => ?_) (fun h1 => ?_)
  · refine V_aload_n hC dX11_block_58 0 rfl ?_
    refine V_iconst hC dX11_block_59 (v := 1) (by decide) ?_
    refine V_calli hC (V_runV hC (rest := []) [.int 1] (c_X11_no l G M 0 du mny cl ws nb ny fd aw al y 1) [0] rfl (by decide) q1141 q1143 q20 q52 q1144 ⟨by decide, by decide, rfl⟩ ⟨by decide, by decide⟩ (ci := 12) rfl (mem_at 0 0 rfl rfl) rfl (Nat.le_of_ble_eq_true rfl) ⟨by decide, by decide⟩ dX11_block_60) (is := [0]) rfl [1, 2] (rs := [[(M 1, .inl (G.2.1 9, 6, .inr (.inr (.inr (.inr (rfN 6 bR))))))], famW 6 (fun ι => iaP G (bR ι) 6 (bm ι))]) rfl (by decide) (by decide) ?_
    rintro _ _ ⟨rfl, rfl⟩
    exact V_iret hC hQ hr [0, 1, 2] (u := [[(M 0, .inr (12, [.int 1, .ref (M 1), .ref (M 2), .ref aw, .ref al, .ref (M 3), .ref (M 4), .ref (M 5), .ref (M 6), .ref y, .int (nI nb), .int (nI ny), .int du, .int mny, .int cl, .int (nI fd), .int ws]))], [(M 1, .inl (G.2.1 9, 6, .inr (.inr (.inr (.inr (rfN 6 bR))))))], famW 6 (fun ι => iaP G (bR ι) 6 (bm ι))]) (by decide) rfl (by decide) (by decide) dX11_block_63 (Or.inl ⟨1, Or.inl ⟨rfl, fun e => moIn_n h1 e.1⟩, rfl, rfl⟩)
  · refine V_iload_n hC dX11_block_16 2 rfl ?_
    refine V_iconst hC dX11_block_17 (v := 0) (by decide) ?_
    refine V_bipush hC dX11_block_18 (v := 9) (by decide) ?_
    refine V_calli hC (V_runS hC (rest := []) [.int v0, .int 0, .int 9] (c_X11_in l G v0 0 9) [] rfl (by decide) q1138 q1139 q52 q1140 ⟨by decide, by decide, rfl⟩ ⟨by decide, by decide⟩ rfl (Nat.le_of_ble_eq_true rfl) ⟨by decide, by decide⟩ dX11_block_20) (is := []) rfl [0, 1, 2] (rs := [[(M 0, .inr (12, [.int 0, .ref (M 1), .ref (M 2), .ref aw, .ref al, .ref (M 3), .ref (M 4), .ref (M 5), .ref (M 6), .ref y, .int (nI nb), .int (nI ny), .int du, .int mny, .int cl, .int (nI fd), .int ws]))], [(M 1, .inl (G.2.1 9, 6, .inr (.inr (.inr (.inr (rfN 6 bR))))))], famW 6 (fun ι => iaP G (bR ι) 6 (bm ι))]) rfl (by decide) (by decide) ?_
    rintro _ _ ⟨rfl, rfl⟩
    refine V_if_eq hC dX11_block_23 (tgt := 58) (by decide) (fun h2 => ?_) (fun h2 => ?_)
    · refine V_aload_n hC dX11_block_58 0 rfl ?_
      refine V_iconst hC dX11_block_59 (v := 1) (by decide) ?_
      refine V_calli hC (V_runV hC (rest := []) [.int 1] (c_X11_no l G M 0 du mny cl ws nb ny fd aw al y 1) [0] rfl (by decide) q1141 q1143 q20 q52 q1144 ⟨by decide, by decide, rfl⟩ ⟨by decide, by decide⟩ (ci := 12) rfl (mem_at 0 0 rfl rfl) rfl (Nat.le_of_ble_eq_true rfl) ⟨by decide, by decide⟩ dX11_block_60) (is := [0]) rfl [1, 2] (rs := [[(M 1, .inl (G.2.1 9, 6, .inr (.inr (.inr (.inr (rfN 6 bR))))))], famW 6 (fun ι => iaP G (bR ι) 6 (bm ι))]) rfl (by decide) (by decide) ?_
      rintro _ _ ⟨rfl, rfl⟩
      exact V_iret hC hQ hr [0, 1, 2] (u := [[(M 0, .inr (12, [.int 1, .ref (M 1), .ref (M 2), .ref aw, .ref al, .ref (M 3), .ref (M 4), .ref (M 5), .ref (M 6), .ref y, .int (nI nb), .int (nI ny), .int du, .int mny, .int cl, .int (nI fd), .int ws]))], [(M 1, .inl (G.2.1 9, 6, .inr (.inr (.inr (.inr (rfN 6 bR))))))], famW 6 (fun ι => iaP G (bR ι) 6 (bm ι))]) (by decide) rfl (by decide) (by decide) dX11_block_63 (Or.inl ⟨1, Or.inl ⟨rfl, fun e => moIn_n h2 e.2.1⟩, rfl, rfl⟩)
    · refine V_iload_n hC dX11_block_26 3 rfl ?_
      refine V_iconst hC dX11_block_27 (v := 0) (by decide) ?_
      refine V_bipush hC dX11_block_28 (v := 9) (by decide) ?_
      refine V_calli hC (V_runS hC (rest := []) [.int v1, .int 0, .int 9] (c_X11_in l G v1 0 9) [] rfl (by decide) q1138 q1139 q52 q1140 ⟨by decide, by decide, rfl⟩ ⟨by decide, by decide⟩ rfl (Nat.le_of_ble_eq_true rfl) ⟨by decide, by decide⟩ dX11_block_30) (is := []) rfl [0, 1, 2] (rs := [[(M 0, .inr (12, [.int 0, .ref (M 1), .ref (M 2), .ref aw, .ref al, .ref (M 3), .ref (M 4), .ref (M 5), .ref (M 6), .ref y, .int (nI nb), .int (nI ny), .int du, .int mny, .int cl, .int (nI fd), .int ws]))], [(M 1, .inl (G.2.1 9, 6, .inr (.inr (.inr (.inr (rfN 6 bR))))))], famW 6 (fun ι => iaP G (bR ι) 6 (bm ι))]) rfl (by decide) (by decide) ?_
      rintro _ _ ⟨rfl, rfl⟩
      refine V_if_eq hC dX11_block_33 (tgt := 58) (by decide) (fun h3 => ?_) (fun h3 => ?_)
      · refine V_aload_n hC dX11_block_58 0 rfl ?_
        refine V_iconst hC dX11_block_59 (v := 1) (by decide) ?_
        refine V_calli hC (V_runV hC (rest := []) [.int 1] (c_X11_no l G M 0 du mny cl ws nb ny fd aw al y 1) [0] rfl (by decide) q1141 q1143 q20 q52 q1144 ⟨by decide, by decide, rfl⟩ ⟨by decide, by decide⟩ (ci := 12) rfl (mem_at 0 0 rfl rfl) rfl (Nat.le_of_ble_eq_true rfl) ⟨by decide, by decide⟩ dX11_block_60) (is := [0]) rfl [1, 2] (rs := [[(M 1, .inl (G.2.1 9, 6, .inr (.inr (.inr (.inr (rfN 6 bR))))))], famW 6 (fun ι => iaP G (bR ι) 6 (bm ι))]) rfl (by decide) (by decide) ?_
        rintro _ _ ⟨rfl, rfl⟩
        exact V_iret hC hQ hr [0, 1, 2] (u := [[(M 0, .inr (12, [.int 1, .ref (M 1), .ref (M 2), .ref aw, .ref al, .ref (M 3), .ref (M 4), .ref (M 5), .ref (M 6), .ref y, .int (nI nb), .int (nI ny), .int du, .int mny, .int cl, .int (nI fd), .int ws]))], [(M 1, .inl (G.2.1 9, 6, .inr (.inr (.inr (.inr (rfN 6 bR))))))], famW 6 (fun ι => iaP G (bR ι) 6 (bm ι))]) (by decide) rfl (by decide) (by decide) dX11_block_63 (Or.inl ⟨1, Or.inl ⟨rfl, fun e => moIn_n h3 e.2.2.1⟩, rfl, rfl⟩)
      · refine V_iload hC dX11_block_36 4 rfl ?_
        refine V_iconst hC dX11_block_38 (v := 0) (by decide) ?_
        refine V_bipush hC dX11_block_39 (v := 9) (by decide) ?_
        refine V_calli hC (V_runS hC (rest := []) [.int v2, .int 0, .int 9] (c_X11_in l G v2 0 9) [] rfl (by decide) q1138 q1139 q52 q1140 ⟨by decide, by decide, rfl⟩ ⟨by decide, by decide⟩ rfl (Nat.le_of_ble_eq_true rfl) ⟨by decide, by decide⟩ dX11_block_41) (is := []) rfl [0, 1, 2] (rs := [[(M 0, .inr (12, [.int 0, .ref (M 1), .ref (M 2), .ref aw, .ref al, .ref (M 3), .ref (M 4), .ref (M 5), .ref (M 6), .ref y, .int (nI nb), .int (nI ny), .int du, .int mny, .int cl, .int (nI fd), .int ws]))], [(M 1, .inl (G.2.1 9, 6, .inr (.inr (.inr (.inr (rfN 6 bR))))))], famW 6 (fun ι => iaP G (bR ι) 6 (bm ι))]) rfl (by decide) (by decide) ?_
        rintro _ _ ⟨rfl, rfl⟩
        refine V_if_eq hC dX11_block_44 (tgt := 58) (by decide) (fun h4 => ?_) (fun h4 => ?_)
        · refine V_aload_n hC dX11_block_58 0 rfl ?_
          refine V_iconst hC dX11_block_59 (v := 1) (by decide) ?_
          refine V_calli hC (V_runV hC (rest := []) [.int 1] (c_X11_no l G M 0 du mny cl ws nb ny fd aw al y 1) [0] rfl (by decide) q1141 q1143 q20 q52 q1144 ⟨by decide, by decide, rfl⟩ ⟨by decide, by decide⟩ (ci := 12) rfl (mem_at 0 0 rfl rfl) rfl (Nat.le_of_ble_eq_true rfl) ⟨by decide, by decide⟩ dX11_block_60) (is := [0]) rfl [1, 2] (rs := [[(M 1, .inl (G.2.1 9, 6, .inr (.inr (.inr (.inr (rfN 6 bR))))))], famW 6 (fun ι => iaP G (bR ι) 6 (bm ι))]) rfl (by decide) (by decide) ?_
          rintro _ _ ⟨rfl, rfl⟩
          exact V_iret hC hQ hr [0, 1, 2] (u := [[(M 0, .inr (12, [.int 1, .ref (M 1), .ref (M 2), .ref aw, .ref al, .ref (M 3), .ref (M 4), .ref (M 5), .ref (M 6), .ref y, .int (nI nb), .int (nI ny), .int du, .int mny, .int cl, .int (nI fd), .int ws]))], [(M 1, .inl (G.2.1 9, 6, .inr (.inr (.inr (.inr (rfN 6 bR))))))], famW 6 (fun ι => iaP G (bR ι) 6 (bm ι))]) (by decide) rfl (by decide) (by decide) dX11_block_63 (Or.inl ⟨1, Or.inl ⟨rfl, fun e => moIn_n h4 e.2.2.2.1⟩, rfl, rfl⟩)
        · refine V_iload hC dX11_block_47 5 rfl ?_
          refine V_iconst hC dX11_block_49 (v := 0) (by decide) ?_
          refine V_bipush hC dX11_block_50 (v := 9) (by decide) ?_
          refine V_calli hC (V_runS hC (rest := []) [.int v3, .int 0, .int 9] (c_X11_in l G v3 0 9) [] rfl (by decide) q1138 q1139 q52 q1140 ⟨by decide, by decide, rfl⟩ ⟨by decide, by decide⟩ rfl (Nat.le_of_ble_eq_true rfl) ⟨by decide, by decide⟩ dX11_block_52) (is := []) rfl [0, 1, 2] (rs := [[(M 0, .inr (12, [.int 0, .ref (M 1), .ref (M 2), .ref aw, .ref al, .ref (M 3), .ref (M 4), .ref (M 5), .ref (M 6), .ref y, .int (nI nb), .int (nI ny), .int du, .int mny, .int cl, .int (nI fd), .int ws]))], [(M 1, .inl (G.2.1 9, 6, .inr (.inr (.inr (.inr (rfN 6 bR))))))], famW 6 (fun ι => iaP G (bR ι) 6 (bm ι))]) rfl (by decide) (by decide) ?_
          rintro _ _ ⟨rfl, rfl⟩
          refine V_if_ne hC dX11_block_55 (tgt := 64) (by decide) (fun h5 => ?_) (fun h5 => ?_)
          · refine V_aload_n hC dX11_block_64 0 rfl ?_
            refine V_get hC dX11_block_65 inAX11 (mem_at 0 0 rfl rfl) rfl 10 (by decide) q1088 rfl (v := .int (nI nb)) rfl ?_
            refine V_bipush hC dX11_block_68 (v := 6) (by decide) ?_
            refine V_icmp_ne hC dX11_block_70 (tgt := 79) (by decide) (fun h6 => ?_) (fun h6 => ?_)
            · have hlt : nb < 6 := by rcases Nat.lt_or_ge nb 6 with h9 | h9; exact h9; exact absurd (show nI nb = 6 from by rw [show nb = 6 by omega]; rfl) h6
              refine V_bipush hC dX11_block_79 (v := 6) (by decide) ?_
              refine V_newa_i hC q103 (N := 6) (by decide) (by decide) (by decide) (by decide) (by decide) dX11_block_81 (fun q7 => ?_)
              refine V_dup hC dX11_block_83 rfl ?_
              refine V_iconst hC dX11_block_84 (v := 0) (by decide) ?_
              refine V_iload_n hC dX11_block_85 1 rfl ?_
              refine V_iast hC dX11_block_86 3 0 rfl rfl (vin (by decide)) (z := 0) (by decide) (ps' := [[(M 0, .inr (12, [.int 0, .ref (M 1), .ref (M 2), .ref aw, .ref al, .ref (M 3), .ref (M 4), .ref (M 5), .ref (M 6), .ref y, .int (nI nb), .int (nI ny), .int du, .int mny, .int cl, .int (nI fd), .int ws]))], [(M 1, .inl (G.2.1 9, 6, .inr (.inr (.inr (.inr (rfN 6 bR))))))], famW 6 (fun ι => iaP G (bR ι) 6 (bm ι)), [(q7, .inl (G.2.1 0, 6, .inl (upd (fun _ => 0) 0 s0)))]]) rfl ?_
              refine V_dup hC dX11_block_87 rfl ?_
              refine V_iconst hC dX11_block_88 (v := 1) (by decide) ?_
              refine V_iconst hC dX11_block_89 (v := 0) (by decide) ?_
              refine V_iast hC dX11_block_90 3 0 rfl rfl (vin (by decide)) (z := 1) (by decide) (ps' := [[(M 0, .inr (12, [.int 0, .ref (M 1), .ref (M 2), .ref aw, .ref al, .ref (M 3), .ref (M 4), .ref (M 5), .ref (M 6), .ref y, .int (nI nb), .int (nI ny), .int du, .int mny, .int cl, .int (nI fd), .int ws]))], [(M 1, .inl (G.2.1 9, 6, .inr (.inr (.inr (.inr (rfN 6 bR))))))], famW 6 (fun ι => iaP G (bR ι) 6 (bm ι)), [(q7, .inl (G.2.1 0, 6, .inl (upd (upd (fun _ => 0) 0 s0) 1 0)))]]) rfl ?_
              refine V_dup hC dX11_block_91 rfl ?_
              refine V_iconst hC dX11_block_92 (v := 2) (by decide) ?_
              refine V_iload_n hC dX11_block_93 2 rfl ?_
              refine V_iast hC dX11_block_94 3 0 rfl rfl (vin (by decide)) (z := 2) (by decide) (ps' := [[(M 0, .inr (12, [.int 0, .ref (M 1), .ref (M 2), .ref aw, .ref al, .ref (M 3), .ref (M 4), .ref (M 5), .ref (M 6), .ref y, .int (nI nb), .int (nI ny), .int du, .int mny, .int cl, .int (nI fd), .int ws]))], [(M 1, .inl (G.2.1 9, 6, .inr (.inr (.inr (.inr (rfN 6 bR))))))], famW 6 (fun ι => iaP G (bR ι) 6 (bm ι)), [(q7, .inl (G.2.1 0, 6, .inl (upd (upd (upd (fun _ => 0) 0 s0) 1 0) 2 v0)))]]) rfl ?_
              refine V_dup hC dX11_block_95 rfl ?_
              refine V_iconst hC dX11_block_96 (v := 3) (by decide) ?_
              refine V_iload_n hC dX11_block_97 3 rfl ?_
              refine V_iast hC dX11_block_98 3 0 rfl rfl (vin (by decide)) (z := 3) (by decide) (ps' := [[(M 0, .inr (12, [.int 0, .ref (M 1), .ref (M 2), .ref aw, .ref al, .ref (M 3), .ref (M 4), .ref (M 5), .ref (M 6), .ref y, .int (nI nb), .int (nI ny), .int du, .int mny, .int cl, .int (nI fd), .int ws]))], [(M 1, .inl (G.2.1 9, 6, .inr (.inr (.inr (.inr (rfN 6 bR))))))], famW 6 (fun ι => iaP G (bR ι) 6 (bm ι)), [(q7, .inl (G.2.1 0, 6, .inl (upd (upd (upd (upd (fun _ => 0) 0 s0) 1 0) 2 v0) 3 v1)))]]) rfl ?_
              refine V_dup hC dX11_block_99 rfl ?_
              refine V_iconst hC dX11_block_100 (v := 4) (by decide) ?_
              refine V_iload hC dX11_block_101 4 rfl ?_
              refine V_iast hC dX11_block_103 3 0 rfl rfl (vin (by decide)) (z := 4) (by decide) (ps' := [[(M 0, .inr (12, [.int 0, .ref (M 1), .ref (M 2), .ref aw, .ref al, .ref (M 3), .ref (M 4), .ref (M 5), .ref (M 6), .ref y, .int (nI nb), .int (nI ny), .int du, .int mny, .int cl, .int (nI fd), .int ws]))], [(M 1, .inl (G.2.1 9, 6, .inr (.inr (.inr (.inr (rfN 6 bR))))))], famW 6 (fun ι => iaP G (bR ι) 6 (bm ι)), [(q7, .inl (G.2.1 0, 6, .inl (upd (upd (upd (upd (upd (fun _ => 0) 0 s0) 1 0) 2 v0) 3 v1) 4 v2)))]]) rfl ?_
              refine V_dup hC dX11_block_104 rfl ?_
              refine V_iconst hC dX11_block_105 (v := 5) (by decide) ?_
              refine V_iload hC dX11_block_106 5 rfl ?_
              refine V_iast hC dX11_block_108 3 0 rfl rfl (vin (by decide)) (z := 5) (by decide) (ps' := [[(M 0, .inr (12, [.int 0, .ref (M 1), .ref (M 2), .ref aw, .ref al, .ref (M 3), .ref (M 4), .ref (M 5), .ref (M 6), .ref y, .int (nI nb), .int (nI ny), .int du, .int mny, .int cl, .int (nI fd), .int ws]))], [(M 1, .inl (G.2.1 9, 6, .inr (.inr (.inr (.inr (rfN 6 bR))))))], famW 6 (fun ι => iaP G (bR ι) 6 (bm ι)), [(q7, .inl (G.2.1 0, 6, .inl (upd (upd (upd (upd (upd (upd (fun _ => 0) 0 s0) 1 0) 2 v0) 3 v1) 4 v2) 5 v3)))]]) rfl ?_
              refine V_astore hC dX11_block_109 (L' := [(6, .ref q7), (0, .ref (M 0)), (1, .int s0), (2, .int v0), (3, .int v1), (4, .int v2), (5, .int v3)]) (by decide) rfl ?_
              refine V_aload hC dX11_block_111 0 rfl ?_
              refine V_iconst hC dX11_block_113 (v := 0) (by decide) ?_
              refine V_aload_n hC dX11_block_114 1 rfl ?_
              refine V_get hC dX11_block_115 inAX11 (mem_at 0 0 rfl rfl) rfl 1 (by decide) q1079 rfl (v := .ref (M 1)) rfl ?_
              refine V_aload_n hC dX11_block_118 1 rfl ?_
              refine V_get hC dX11_block_119 inAX11 (mem_at 0 0 rfl rfl) rfl 10 (by decide) q1088 rfl (v := .int (nI nb)) rfl ?_
              refine V_aaldI hC dX11_block_122 (mem_at 1 0 rfl rfl) (vp_in_nI (by omega) (by omega)) (x := nb) (nI_clamp (by omega)) (b := bR nb) (rfN_at (hlt)) ?_
              refine V_iconst hC dX11_block_123 (v := 0) (by decide) ?_
              refine V_bipush hC dX11_block_124 (v := 6) (by decide) ?_
              refine V_sub [2, 0, 1, 3] (by decide) (u := [famW 6 (fun ι => iaP G (bR ι) 6 (bm ι)), [(M 0, .inr (12, [.int 0, .ref (M 1), .ref (M 2), .ref aw, .ref al, .ref (M 3), .ref (M 4), .ref (M 5), .ref (M 6), .ref y, .int (nI nb), .int (nI ny), .int du, .int mny, .int cl, .int (nI fd), .int ws]))], [(M 1, .inl (G.2.1 9, 6, .inr (.inr (.inr (.inr (rfN 6 bR))))))], [(q7, .inl (G.2.1 0, 6, .inl (upd (upd (upd (upd (upd (upd (fun _ => 0) 0 s0) 1 0) 2 v0) 3 v1) 4 v2) 5 v3)))]]) rfl ?_
              refine V_open (i := nb) (hlt) ?_
              refine V_copyi hC q1145 q1147 q1146 q63 (mem_at 4 0 rfl rfl) 0 0 rfl rfl 0 0 6 (by rfl) (by rfl) (by rfl) (by first | decide | omega) (by first | decide | omega) (by first | decide | omega) (by first | decide | omega) (by decide) (by decide) (ps' := [iaP G (bR nb) 6 (va_cpy (upd (upd (upd (upd (upd (upd (fun _ => 0) 0 s0) 1 0) 2 v0) 3 v1) 4 v2) 5 v3) (bm nb) 0 0 6), famX 6 nb (fun ι => iaP G (bR ι) 6 (bm ι)), [(M 0, .inr (12, [.int 0, .ref (M 1), .ref (M 2), .ref aw, .ref al, .ref (M 3), .ref (M 4), .ref (M 5), .ref (M 6), .ref y, .int (nI nb), .int (nI ny), .int du, .int mny, .int cl, .int (nI fd), .int ws]))], [(M 1, .inl (G.2.1 9, 6, .inr (.inr (.inr (.inr (rfN 6 bR))))))], [(q7, .inl (G.2.1 0, 6, .inl (upd (upd (upd (upd (upd (upd (fun _ => 0) 0 s0) 1 0) 2 v0) 3 v1) 4 v2) 5 v3)))]]) rfl dX11_block_126 ?_
              refine V_close (i := nb) (g' := fun ι => iaP G (bR ι) 6 ((va_up bm nb (va_cpy (upd (upd (upd (upd (upd (upd (fun _ => 0) 0 s0) 1 0) 2 v0) 3 v1) 4 v2) 5 v3) (bm nb) 0 0 6)) ι)) (hlt) (by simp [va_up]) (fun j _ hne => by simp [va_up, hne]) ?_
              refine V_aload_n hC dX11_block_129 1 rfl ?_
              refine V_dup hC dX11_block_130 rfl ?_
              refine V_get hC dX11_block_131 inAX11 (mem_at 1 0 rfl rfl) rfl 10 (by decide) q1088 rfl (v := .int (nI nb)) rfl ?_
              refine V_dup_x1 hC dX11_block_134 rfl rfl ?_
              refine V_iconst hC dX11_block_135 (v := 1) (by decide) ?_
              refine V_iadd hC dX11_block_136 ?_
              refine V_eqi (y := nI (nb + 1)) (nI_1 nb) ?_
              refine V_put hC dX11_block_137 inAX11 tyX11 tyX11_ok nmX11 1 0 rfl rfl rfl 10 (by decide) q1088 rfl rfl (rfl) (rfl) (Nat.le_of_ble_eq_true rfl) (ps' := [famW 6 (fun ι => iaP G (bR ι) 6 ((va_up bm nb (va_cpy (upd (upd (upd (upd (upd (upd (fun _ => 0) 0 s0) 1 0) 2 v0) 3 v1) 4 v2) 5 v3) (bm nb) 0 0 6)) ι)), [(M 0, .inr (12, [.int 0, .ref (M 1), .ref (M 2), .ref aw, .ref al, .ref (M 3), .ref (M 4), .ref (M 5), .ref (M 6), .ref y, .int (nI (nb + 1)), .int (nI ny), .int du, .int mny, .int cl, .int (nI fd), .int ws]))], [(M 1, .inl (G.2.1 9, 6, .inr (.inr (.inr (.inr (rfN 6 bR))))))], [(q7, .inl (G.2.1 0, 6, .inl (upd (upd (upd (upd (upd (upd (fun _ => 0) 0 s0) 1 0) 2 v0) 3 v1) 4 v2) 5 v3)))]]) rfl ?_
              exact V_iret hC hQ hr [1, 2, 0] (u := [[(M 0, .inr (12, [.int 0, .ref (M 1), .ref (M 2), .ref aw, .ref al, .ref (M 3), .ref (M 4), .ref (M 5), .ref (M 6), .ref y, .int (nI (nb + 1)), .int (nI ny), .int du, .int mny, .int cl, .int (nI fd), .int ws]))], [(M 1, .inl (G.2.1 9, 6, .inr (.inr (.inr (.inr (rfN 6 bR))))))], famW 6 (fun ι => iaP G (bR ι) 6 ((va_up bm nb (va_cpy (upd (upd (upd (upd (upd (upd (fun _ => 0) 0 s0) 1 0) 2 v0) 3 v1) 4 v2) 5 v3) (bm nb) 0 0 6)) ι))]) (by decide) rfl (by decide) (by decide) dX11_block_140 (Or.inr ⟨⟨moIn_y h1, moIn_y h2, moIn_y h3, moIn_y h4, moIn_y h5⟩, hlt, rfl, rfl⟩)
            · have hfull : nb = 6 := nI_inj (b := 6) h6
              refine V_aload_n hC dX11_block_73 0 rfl ?_
              refine V_iconst hC dX11_block_74 (v := 2) (by decide) ?_
              refine V_calli hC (V_runV hC (rest := []) [.int 2] (c_X11_no l G M 0 du mny cl ws nb ny fd aw al y 2) [0] rfl (by decide) q1141 q1143 q20 q52 q1144 ⟨by decide, by decide, rfl⟩ ⟨by decide, by decide⟩ (ci := 12) rfl (mem_at 0 0 rfl rfl) rfl (Nat.le_of_ble_eq_true rfl) ⟨by decide, by decide⟩ dX11_block_75) (is := [0]) rfl [1, 2] (rs := [[(M 1, .inl (G.2.1 9, 6, .inr (.inr (.inr (.inr (rfN 6 bR))))))], famW 6 (fun ι => iaP G (bR ι) 6 (bm ι))]) rfl (by decide) (by decide) ?_
              rintro _ _ ⟨rfl, rfl⟩
              exact V_iret hC hQ hr [0, 1, 2] (u := [[(M 0, .inr (12, [.int 2, .ref (M 1), .ref (M 2), .ref aw, .ref al, .ref (M 3), .ref (M 4), .ref (M 5), .ref (M 6), .ref y, .int (nI nb), .int (nI ny), .int du, .int mny, .int cl, .int (nI fd), .int ws]))], [(M 1, .inl (G.2.1 9, 6, .inr (.inr (.inr (.inr (rfN 6 bR))))))], famW 6 (fun ι => iaP G (bR ι) 6 (bm ι))]) (by decide) rfl (by decide) (by decide) dX11_block_78 (Or.inl ⟨2, Or.inr ⟨rfl, ⟨moIn_y h1, moIn_y h2, moIn_y h3, moIn_y h4, moIn_y h5⟩, hfull⟩, rfl, rfl⟩)
          · refine V_aload_n hC dX11_block_58 0 rfl ?_
            refine V_iconst hC dX11_block_59 (v := 1) (by decide) ?_
            refine V_calli hC (V_runV hC (rest := []) [.int 1] (c_X11_no l G M 0 du mny cl ws nb ny fd aw al y 1) [0] rfl (by decide) q1141 q1143 q20 q52 q1144 ⟨by decide, by decide, rfl⟩ ⟨by decide, by decide⟩ (ci := 12) rfl (mem_at 0 0 rfl rfl) rfl (Nat.le_of_ble_eq_true rfl) ⟨by decide, by decide⟩ dX11_block_60) (is := [0]) rfl [1, 2] (rs := [[(M 1, .inl (G.2.1 9, 6, .inr (.inr (.inr (.inr (rfN 6 bR))))))], famW 6 (fun ι => iaP G (bR ι) 6 (bm ι))]) rfl (by decide) (by decide) ?_
            rintro _ _ ⟨rfl, rfl⟩
            exact V_iret hC hQ hr [0, 1, 2] (u := [[(M 0, .inr (12, [.int 1, .ref (M 1), .ref (M 2), .ref aw, .ref al, .ref (M 3), .ref (M 4), .ref (M 5), .ref (M 6), .ref y, .int (nI nb), .int (nI ny), .int du, .int mny, .int cl, .int (nI fd), .int ws]))], [(M 1, .inl (G.2.1 9, 6, .inr (.inr (.inr (.inr (rfN 6 bR))))))], famW 6 (fun ι => iaP G (bR ι) 6 (bm ι))]) (by decide) rfl (by decide) (by decide) dX11_block_63 (Or.inl ⟨1, Or.inl ⟨rfl, fun e => moIn_n h5 e.2.2.2.2⟩, rfl, rfl⟩)
