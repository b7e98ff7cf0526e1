/-! ===== the law's own class: a new one; telling another works the same ===== -/
abbrev noW : va_W := []
theorem lsN_s (f : Nat → Int32) (p : Nat → Nat) (v j : Nat) : lsN f p v (j + 1) = lsN f p v j + (if f j = nI v then p j else 0) := rfl
theorem lsN_m {f : Nat → Int32} {p : Nat → Nat} {v i : Nat} : ∀ {n : Nat}, i ≤ n → lsN f p v i ≤ lsN f p v n
  | 0, h => by rw [Nat.le_zero.mp h]; exact Nat.le_refl _
  | n + 1, h => by
    rw [lsN_s]
    by_cases e : i = n + 1
    · rw [e, lsN_s]
      exact Nat.le_refl _
    · have := lsN_m (f := f) (p := p) (v := v) (i := i) (n := n) (by omega)
      omega
theorem lsN_p {f : Nat → Int32} {p : Nat → Nat} {v i : Nat} (h : f i = nI v) : lsN f p v (i + 1) = lsN f p v i + p i := by rw [lsN_s, if_pos h]
theorem lsN_n {f : Nat → Int32} {p : Nat → Nat} {v i : Nat} (h : ¬ f i = nI v) : lsN f p v (i + 1) = lsN f p v i := by rw [lsN_s, if_neg h]; rfl
theorem tX_in {bz : Nat → BV} {bl : Nat → Nat → Int32} (h : tX bz bl) {i k : Nat} (hi : i < 4) (hk : k < 4) : inR 0 9 (bl i (k + 1)) := by
  obtain ⟨w, hw, e⟩ := (h i hi k hk).2
  rw [e]
  exact inR_nI (M := 9) hw
/-- so many blocks told again -/
def cFk (k : Nat) (st p : Nat → Nat) (bz : Nat → BV) (n : Nat) (f : Nat → Int32) (bz' : Nat → BV) : Prop := (∀ i, (bz' i).2.1 = 0) ∧ ∀ i, i < k → (bz' i).1 = nI (st i + lsN f p i n) ∧ ∀ j, j < 4 → (bz' i).2.2 j = (bz i).2.2 j
theorem cFk_0 {st p : Nat → Nat} {bz : Nat → BV} {n : Nat} {f : Nat → Int32} : cFk 0 st p bz n f (fun _ => bz0) := ⟨fun _ => rfl, fun i hi => absurd hi (Nat.not_lt_zero i)⟩
theorem cFk_put {k n : Nat} {st p : Nat → Nat} {bz bz' : Nat → BV} {bl : Nat → Nat → Int32} {f : Nat → Int32} (h : cFk k st p bz n f bz') (hX : tX bz bl) (hk : k < 4) : cFk (k + 1) st p bz n f (va_up bz' k (nI (st k + lsN f p k n), (bz' k).2.1, tl5 (bz' k).2.2 (bl k 1) (bl k 2) (bl k 3) (bl k 4))) := by
  refine ⟨fun i => ?_, fun i hi => ?_⟩
  · by_cases e : i = k
    · rw [e, va_up_eq]
      exact h.1 k
    · rw [va_up_ne _ _ e]
      exact h.1 i
  · by_cases e : i = k
    · rw [e, va_up_eq]
      refine ⟨rfl, fun j hj => ?_⟩
      match j, hj with
      | 0, _ => exact (hX k hk 0 (by decide)).1
      | 1, _ => exact (hX k hk 1 (by decide)).1
      | 2, _ => exact (hX k hk 2 (by decide)).1
      | 3, _ => exact (hX k hk 3 (by decide)).1
    · rw [va_up_ne _ _ e]
      exact h.2 i (by omega)
theorem cFk_ok {k n : Nat} {st p : Nat → Nat} {bz bz' : Nat → BV} {f f' g' : Nat → Int32} (h : cFk k st p bz n f bz') (hk : k ≤ 6) : wOk k bz' 0 f' g' kS0 0 := ⟨hk, Nat.zero_le 8, fun j hj => absurd hj (Nat.not_lt_zero j), fun i _ => Or.inl (h.1 i), kwf_0, Nat.zero_le 12⟩
/-- so many layers blasted again -/
def cBi (i : Nat) (st p : Nat → Nat) (bz : Nat → BV) (n : Nat) (f g : Nat → Int32) (bz' : Nat → BV) (f' g' : Nat → Int32) : Prop := (∀ v, v < 4 → (bz' v).1 = nI (st v + (lsN f p v n - lsN f p v i)) ∧ (bz' v).2.1 = knB f v i ∧ ∀ k, k < 4 → (bz' v).2.2 k = (bz v).2.2 k) ∧ (∀ j, j < i → f' j = f j ∧ g' j = g j) ∧ ∀ v, v < 6 → (bz' v).2.1 = 0 ∨ (bz' v).2.1 = 1
theorem cBi_0 {n : Nat} {st p : Nat → Nat} {bz bz' : Nat → BV} {f g f' g' : Nat → Int32} (h : cFk 4 st p bz n f bz') : cBi 0 st p bz n f g bz' f' g' := ⟨fun v hv => ⟨(h.2 v hv).1, h.1 v, (h.2 v hv).2⟩, fun j hj => absurd hj (Nat.not_lt_zero j), fun v _ => Or.inl (h.1 v)⟩
theorem cBi_ok {i n k : Nat} {st p : Nat → Nat} {bz bz' : Nat → BV} {f g f' g' : Nat → Int32} {bl lf : Nat → Nat → Int32} (hT : tB k st p bz n f g bl lf) (h : cBi i st p bz n f g bz' f' g') (hi : i ≤ n) (hk : n ≤ 8) : wOk 4 bz' i f' g' kS0 0 := ⟨by decide, by omega, fun j hj => by rw [(h.2.1 j hj).1]; exact (hT.2.2.1 j (by omega)).2.2.1, h.2.2, kwf_0, Nat.zero_le 12⟩
theorem cBi_mn {i n k v : Nat} {st p : Nat → Nat} {bz bz' : Nat → BV} {f g f' g' : Nat → Int32} {bl lf : Nat → Nat → Int32} (hT : tB k st p bz n f g bl lf) (h : cBi i st p bz n f g bz' f' g') (hi : i < n) (hv : v < 4) (e : f i = nI v) : mn (nI (p i)) (bz' v).1 = nI (p i) ∧ ¬ (bz' v).1 = 0 := by
  have h1 := lsN_p (p := p) e
  have h2 := lsN_m (f := f) (p := p) (v := v) (i := i + 1) (n := n) hi
  have h3 := (hT.2.1 v hv).2.2.1
  have h4 := (hT.2.2.1 i hi).2.2.2.2
  rw [(h.1 v hv).1, mn_nI]
  refine ⟨by rw [Nat.min_eq_left (by omega)], fun q => ?_⟩
  have := nI_z q (by omega)
  omega
theorem knB_n {f : Nat → Int32} {i j : Nat} (h : ¬ f j = nI i) : knB f i (j + 1) = knB f i j := if_neg h
theorem knB_p {f : Nat → Int32} {i j : Nat} (h : f j = nI i) : knB f i (j + 1) = 1 := if_pos h
theorem cBi_put {i n k v : Nat} {st p : Nat → Nat} {bz bz' : Nat → BV} {f g f' g' : Nat → Int32} {bl lf : Nat → Nat → Int32} (hT : tB k st p bz n f g bl lf) (h : cBi i st p bz n f g bz' f' g') (hi : i < n) (hv : v < 4) (e : f i = nI v) : cBi (i + 1) st p bz n f g (va_up bz' v ((bz' v).1 - mn (nI (p i)) (bz' v).1, 1, (bz' v).2.2)) (upd f' i (nI v)) (upd g' i (mn (nI (p i)) (bz' v).1)) := by
  rw [(cBi_mn hT h hi hv e).1]
  refine ⟨fun a ha => ?_, fun j hj => ?_, fun a ha => ?_⟩
  · by_cases q : a = v
    · rw [q] at ha ⊢
      have h1 := lsN_p (p := p) e
      have h2 := lsN_m (f := f) (p := p) (v := v) (i := i + 1) (n := n) hi
      rw [va_up_eq]
      refine ⟨?_, (knB_p e).symm, (h.1 v hv).2.2⟩
      show (bz' v).1 - nI (p i) = _
      rw [(h.1 v hv).1, pk_sub (by omega), h1]
      exact congrArg nI (by omega)
    · have ne : ¬ f i = nI a := fun z => q (nI_inj (z.symm.trans e) (by omega))
      rw [va_up_ne _ _ q, knB_n ne, lsN_n ne]
      exact h.1 a ha
  · by_cases q : j = i
    · rw [q, pk_us, pk_us]
      exact ⟨e.symm, (hT.2.2.1 i hi).2.2.2.1.symm⟩
    · rw [pk_un q, pk_un q]
      exact h.2.1 j (by omega)
  · by_cases q : a = v
    · rw [q, va_up_eq]
      exact Or.inr rfl
    · rw [va_up_ne _ _ q]
      exact h.2.2 a ha
theorem cBi_end {n k : Nat} {st p : Nat → Nat} {bz bz' : Nat → BV} {f g f' g' : Nat → Int32} {bl lf : Nat → Nat → Int32} (hT : tB k st p bz n f g bl lf) (h : cBi n st p bz n f g bz' f' g') : bEq 4 bz bz' ∧ (∀ j, j < n → f j = f' j ∧ g j = g' j) ∧ ∀ v, v < 6 → (bz' v).2.1 = 0 ∨ (bz' v).2.1 = 1 :=
  ⟨fun v hv => ⟨by rw [(hT.2.1 v hv).2.1, (h.1 v hv).1, Nat.sub_self]; rfl, by rw [(hT.2.1 v hv).2.2.2, (h.1 v hv).2.1], fun k hk => ((h.1 v hv).2.2 k hk).symm⟩, fun j hj => ⟨(h.2.1 j hj).1.symm, (h.2.1 j hj).2.symm⟩, h.2.2⟩
set_option maxHeartbeats 4000000 in
set_option maxRecDepth 100000 in
/-- ClinkerWorksLaw$Told.<init> -/
theorem c_X9_init (l : Launch) (G : VG) (t : Nat) (d : Nat) : Mv l G yX9_init cX9_init 3 5 94 190 900 [.ref t, .ref (G.2.2 1), .int (nI d)] [[(t, .inr (10, [.null, .null, .int 0, .null, .null, .null]))]] (fun u => ∃ (m ba la wa : Nat) (P9 : va_W), isW G m 0 (fun _ => bz0) 0 (fun _ => 0) (fun _ => 0) kS0 0 (fun _ => lz0) P9 ∧ u = [[(t, .inr (10, [.ref m, .ref (G.2.2 1), .int (nI d), .ref ba, .ref la, .ref wa]))], [(ba, .inl (G.2.1 9, 0, .inr (.inr (.inr (.inr (rfN 0 (fun _ => 0 : Nat → Nat)))))))], famW 0 (fun ι => iaP G ((fun _ => 0 : Nat → Nat) ι) 5 ((fun _ _ => 0 : Nat → Nat → Int32) ι)), [(la, .inl (G.2.1 9, 0, .inr (.inr (.inr (.inr (rfN 0 (fun _ => 0 : Nat → Nat)))))))], famW 0 (fun ι => iaP G ((fun _ => 0 : Nat → Nat) ι) 2 ((fun _ _ => 0 : Nat → Nat → Int32) ι)), [(wa, .inl (G.2.1 9, 0, .inr (.inr (.inr (.inr (rfN 0 (fun _ => 0 : Nat → Nat)))))))], noW, P9]) := by
  refine Mv_of (by decide) (Nat.le_of_ble_eq_true rfl) (fun pP eE sS mM aA bB tT cC AA QQ hC hr hnm hQ => ?_)
  refine V_aload_n hC dX9_init_0 0 rfl ?_
  refine V_objInit hC q715 q43 q44 dX9_init_1 (by decide) (Nat.le_of_ble_eq_true rfl) ?_
  refine V_aload_n hC dX9_init_4 0 rfl ?_
  refine V_new hC inAX8 tyX8 tyX8_ok (ci := 9) rfl q716 q38 q20 (fs := [.null, .int 0, .null, .null, .null, .null, .null, .null, .int 0, .int 0, .null, .int 0, .null, .int 0]) (by decide +kernel) (by decide) (by decide) dX9_init_5 (fun q1 => ?_)
  refine V_dup hC dX9_init_8 rfl ?_
  refine V_callv hC (V_runI hC (rest := [.ref q1, .ref t]) [] (w_init l G q1) [1] rfl (by decide) q717 q40 q20 q41 rfl ⟨by decide, by decide, rfl⟩ ⟨by decide, by decide⟩ rfl (Nat.le_of_ble_eq_true rfl) ⟨by decide, by decide⟩ dX9_init_9) (is := [1]) rfl [0] (rs := [[(t, .inr (10, [.null, .null, .int 0, .null, .null, .null]))]]) rfl (by decide) (by decide) ?_
  rintro _ ⟨P92, hW2, rfl⟩
  refine V_putF hC dX9_init_12 inAX9 tyX9 tyX9_ok nmX9 1 0 rfl rfl rfl 0 (by decide) q720 rfl rfl hnm rfl (rfl) (rfl) (Nat.le_of_ble_eq_true rfl) (ps' := [P92, [(t, .inr (10, [.ref q1, .null, .int 0, .null, .null, .null]))]]) rfl ?_
  refine V_aload_n hC dX9_init_15 0 rfl ?_
  refine V_iconst hC dX9_init_16 (v := 0) (by decide) ?_
  refine V_newA hC q718 (N := 0) (by decide) (by decide) (by decide) (by decide) (by decide) dX9_init_17 (fun q3 => ?_)
  refine V_put hC dX9_init_20 inAX9 tyX9 tyX9_ok nmX9 1 0 rfl rfl rfl 3 (by decide) q724 rfl rfl (rfl) (rfl) (Nat.le_of_ble_eq_true rfl) (ps' := [P92, [(t, .inr (10, [.ref q1, .null, .int 0, .ref q3, .null, .null]))], [(q3, .inl (G.2.1 9, 0, .inr (.inr (.inr (.inr (fun _ => none))))))]]) rfl ?_
  refine V_aload_n hC dX9_init_23 0 rfl ?_
  refine V_iconst hC dX9_init_24 (v := 0) (by decide) ?_
  refine V_newA hC q718 (N := 0) (by decide) (by decide) (by decide) (by decide) (by decide) dX9_init_25 (fun q4 => ?_)
  refine V_put hC dX9_init_28 inAX9 tyX9 tyX9_ok nmX9 1 0 rfl rfl rfl 4 (by decide) q726 rfl rfl (rfl) (rfl) (Nat.le_of_ble_eq_true rfl) (ps' := [P92, [(t, .inr (10, [.ref q1, .null, .int 0, .ref q3, .ref q4, .null]))], [(q3, .inl (G.2.1 9, 0, .inr (.inr (.inr (.inr (fun _ => none))))))], [(q4, .inl (G.2.1 9, 0, .inr (.inr (.inr (.inr (fun _ => none))))))]]) rfl ?_
  refine V_aload_n hC dX9_init_31 0 rfl ?_
  refine V_iconst hC dX9_init_32 (v := 0) (by decide) ?_
  refine V_newA hC q718 (N := 0) (by decide) (by decide) (by decide) (by decide) (by decide) dX9_init_33 (fun q5 => ?_)
  refine V_put hC dX9_init_36 inAX9 tyX9 tyX9_ok nmX9 1 0 rfl rfl rfl 5 (by decide) q728 rfl rfl (rfl) (rfl) (Nat.le_of_ble_eq_true rfl) (ps' := [P92, [(t, .inr (10, [.ref q1, .null, .int 0, .ref q3, .ref q4, .ref q5]))], [(q3, .inl (G.2.1 9, 0, .inr (.inr (.inr (.inr (fun _ => none))))))], [(q4, .inl (G.2.1 9, 0, .inr (.inr (.inr (.inr (fun _ => none))))))], [(q5, .inl (G.2.1 9, 0, .inr (.inr (.inr (.inr (fun _ => none))))))]]) rfl ?_
  refine V_aload_n hC dX9_init_39 0 rfl ?_
  refine V_aload_n hC dX9_init_40 1 rfl ?_
  refine V_putF hC dX9_init_41 inAX9 tyX9 tyX9_ok nmX9 1 0 rfl rfl rfl 1 (by decide) q722 rfl rfl hnm rfl (rfl) (rfl) (Nat.le_of_ble_eq_true rfl) (ps' := [P92, [(t, .inr (10, [.ref q1, .ref (G.2.2 1), .int 0, .ref q3, .ref q4, .ref q5]))], [(q3, .inl (G.2.1 9, 0, .inr (.inr (.inr (.inr (fun _ => none))))))], [(q4, .inl (G.2.1 9, 0, .inr (.inr (.inr (.inr (fun _ => none))))))], [(q5, .inl (G.2.1 9, 0, .inr (.inr (.inr (.inr (fun _ => none))))))]]) rfl ?_
  refine V_aload_n hC dX9_init_44 0 rfl ?_
  refine V_iload_n hC dX9_init_45 2 rfl ?_
  refine V_put hC dX9_init_46 inAX9 tyX9 tyX9_ok nmX9 1 0 rfl rfl rfl 2 (by decide) q723 rfl rfl (rfl) (rfl) (Nat.le_of_ble_eq_true rfl) (ps' := [P92, [(t, .inr (10, [.ref q1, .ref (G.2.2 1), .int (nI d), .ref q3, .ref q4, .ref q5]))], [(q3, .inl (G.2.1 9, 0, .inr (.inr (.inr (.inr (fun _ => none))))))], [(q4, .inl (G.2.1 9, 0, .inr (.inr (.inr (.inr (fun _ => none))))))], [(q5, .inl (G.2.1 9, 0, .inr (.inr (.inr (.inr (fun _ => none))))))]]) rfl ?_
  refine V_sub [1, 2, 3, 4, 0] (by decide) (u := [[(t, .inr (10, [.ref q1, .ref (G.2.2 1), .int (nI d), .ref q3, .ref q4, .ref q5]))], [(q3, .inl (G.2.1 9, 0, .inr (.inr (.inr (.inr (fun _ => none))))))], [(q4, .inl (G.2.1 9, 0, .inr (.inr (.inr (.inr (fun _ => none))))))], [(q5, .inl (G.2.1 9, 0, .inr (.inr (.inr (.inr (fun _ => none))))))], P92]) rfl ?_
  refine V_flat (ps' := [[(t, .inr (10, [.ref q1, .ref (G.2.2 1), .int (nI d), .ref q3, .ref q4, .ref q5]))], [(q3, .inl (G.2.1 9, 0, .inr (.inr (.inr (.inr (rfN 0 (fun _ => 0 : Nat → Nat)))))))], famW 0 (fun ι => iaP G ((fun _ => 0 : Nat → Nat) ι) 5 ((fun _ _ => 0 : Nat → Nat → Int32) ι)), [(q4, .inl (G.2.1 9, 0, .inr (.inr (.inr (.inr (rfN 0 (fun _ => 0 : Nat → Nat)))))))], famW 0 (fun ι => iaP G ((fun _ => 0 : Nat → Nat) ι) 2 ((fun _ _ => 0 : Nat → Nat → Int32) ι)), [(q5, .inl (G.2.1 9, 0, .inr (.inr (.inr (.inr (rfN 0 (fun _ => 0 : Nat → Nat)))))))], noW, P92]) (by rw [rfN_0]; rfl) ?_
  exact V_vret hC hQ hr [0, 1, 2, 3, 4, 5, 6, 7] (u := [[(t, .inr (10, [.ref q1, .ref (G.2.2 1), .int (nI d), .ref q3, .ref q4, .ref q5]))], [(q3, .inl (G.2.1 9, 0, .inr (.inr (.inr (.inr (rfN 0 (fun _ => 0 : Nat → Nat)))))))], famW 0 (fun ι => iaP G ((fun _ => 0 : Nat → Nat) ι) 5 ((fun _ _ => 0 : Nat → Nat → Int32) ι)), [(q4, .inl (G.2.1 9, 0, .inr (.inr (.inr (.inr (rfN 0 (fun _ => 0 : Nat → Nat)))))))], famW 0 (fun ι => iaP G ((fun _ => 0 : Nat → Nat) ι) 2 ((fun _ _ => 0 : Nat → Nat → Int32) ι)), [(q5, .inl (G.2.1 9, 0, .inr (.inr (.inr (.inr (rfN 0 (fun _ => 0 : Nat → Nat)))))))], noW, P92]) (by decide) rfl (by decide) (by decide) dX9_init_49 (⟨_, _, _, _, _, hW2, rfl⟩)
set_option maxHeartbeats 4000000 in
set_option maxRecDepth 100000 in
/-- ClinkerWorksLaw.copy -/
theorem c_L_copy (l : Launch) (hl0 : l.stackTraces = false) (G : VG) (t m ba la wa d : Nat) (bA : Nat → Nat) (bl : Nat → Nat → Int32) (lA : Nat → Nat) (lf : Nat → Nat → Int32) (o : Nat) (bz : Nat → BV) (n : Nat) (f g : Nat → Int32) (st p : Nat → Nat) (P : va_W) (hP : isW G o 0 (fun _ => bz0) 0 (fun _ => 0) (fun _ => 0) kS0 0 (fun _ => lz0) P) (hT : tB 4 st p bz n f g bl lf) (hX : tX bz bl) : Mv l G yL_copy cL_copy 8 8 129 50 300 [.ref t, .ref o] [[(t, .inr (10, [.ref m, .ref (G.2.2 1), .int (nI d), .ref ba, .ref la, .ref wa]))], [(ba, .inl (G.2.1 9, 4, .inr (.inr (.inr (.inr (rfN 4 bA))))))], famW 4 (fun ι => iaP G (bA ι) 5 (bl ι)), [(la, .inl (G.2.1 9, n, .inr (.inr (.inr (.inr (rfN n lA))))))], famW n (fun ι => iaP G (lA ι) 2 (lf ι)), P] (fun u => ∃ (bq : Nat → BV) (f9 g9 : Nat → Int32) (P9 : va_W), bEq 4 bz bq ∧ (∀ j, j < n → f j = f9 j ∧ g j = g9 j) ∧ (∀ v, v < 6 → (bq v).2.1 = 0 ∨ (bq v).2.1 = 1) ∧ isW G o 4 bq n f9 g9 kS0 0 (fun _ => lz0) P9 ∧ u = [[(t, .inr (10, [.ref m, .ref (G.2.2 1), .int (nI d), .ref ba, .ref la, .ref wa]))], [(ba, .inl (G.2.1 9, 4, .inr (.inr (.inr (.inr (rfN 4 bA))))))], famW 4 (fun ι => iaP G (bA ι) 5 (bl ι)), [(la, .inl (G.2.1 9, n, .inr (.inr (.inr (.inr (rfN n lA))))))], famW n (fun ι => iaP G (lA ι) 2 (lf ι)), P9]) := by
  refine Mv_of (by decide) (Nat.le_of_ble_eq_true rfl) (fun pP eE sS mM aA bB tT cC AA QQ hC hr hnm hQ => ?_)
  refine V_iconst hC dL_copy_0 (v := 0) (by decide) ?_
  refine V_istore_n hC dL_copy_1 (L' := [(2, .int 0), (0, .ref t), (1, .ref o)]) (by decide) rfl ?_
  have loop1 : ∀ (fuel : Nat) (k : Nat) (bq : Nat → BV) (P9 : va_W) (hk : k ≤ 4) (hF : cFk k st p bz n f bq) (hW : isW G o k bq 0 (fun _ => 0) (fun _ => 0) kS0 0 (fun _ => lz0) P9) (_ : 4 - k < fuel), V pP l eE { frames := 8, cells := 50, slots := 300, locals := 129 } sS mM aA bB tT cC QQ G AA 8 [[(t, .inr (10, [.ref m, .ref (G.2.2 1), .int (nI d), .ref ba, .ref la, .ref wa]))], [(ba, .inl (G.2.1 9, 4, .inr (.inr (.inr (.inr (rfN 4 bA))))))], famW 4 (fun ι => iaP G (bA ι) 5 (bl ι)), [(la, .inl (G.2.1 9, n, .inr (.inr (.inr (.inr (rfN n lA))))))], famW n (fun ι => iaP G (lA ι) 2 (lf ι)), P9] (6 * k) (36 * k) 2 [(0, .ref t), (1, .ref o), (2, .int (nI k))] [] := by
    intro fuel
    induction fuel with
    | zero => intro k bq P9 hk hF hW hm; exact absurd hm (Nat.not_lt_zero _)
    | succ fuel ih =>
      intro k bq P9 hk hF hW hm
      have ih1 := ih
      refine V_iload_n hC dL_copy_2 2 rfl ?_
      refine V_iconst hC dL_copy_3 (v := 4) (by decide) ?_
      refine V_icmp_ge hC dL_copy_4 (tgt := 113) (by decide) (fun h2 => ?_) (fun h2 => ?_)
      · have he4 : k = 4 := by have := nle (a := 4) h2; omega
        rw [he4] at hF hW
        rw [he4]
        have hn4 := hT.1
        refine V_aload_n hC dL_copy_113 0 rfl ?_
        refine V_get hC dL_copy_114 inAX9 (mem_at 0 0 rfl rfl) rfl 4 (by decide) q727 rfl (v := .ref la) rfl ?_
        refine V_astore_n hC dL_copy_117 (L' := [(2, .ref la), (0, .ref t), (1, .ref o)]) (by decide) rfl ?_
        refine V_aload_n hC dL_copy_118 0 rfl ?_
        refine V_alen hC dL_copy_119 9 rfl (mem_at 3 0 rfl rfl) (v := nI n) (rfl) ?_
        refine V_istore_n hC dL_copy_120 (L' := [(3, .int (nI n)), (2, .ref la), (0, .ref t), (1, .ref o)]) (by decide) rfl ?_
        refine V_iconst hC dL_copy_121 (v := 0) (by decide) ?_
        refine V_istore hC dL_copy_122 (L' := [(4, .int 0), (3, .int (nI n)), (2, .ref la), (0, .ref t), (1, .ref o)]) (by decide) rfl ?_
        have loop3 : ∀ (fuel : Nat) (i : Nat) (bq : Nat → BV) (f9 g9 : Nat → Int32) (P9 : va_W) (hi : i ≤ n) (hC9 : cBi i st p bz n f g bq f9 g9) (hW : isW G o 4 bq i f9 g9 kS0 0 (fun _ => lz0) P9) (_ : n - i < fuel), V pP l eE { frames := 8, cells := 50, slots := 300, locals := 129 } sS mM aA bB tT cC QQ G AA 8 [[(t, .inr (10, [.ref m, .ref (G.2.2 1), .int (nI d), .ref ba, .ref la, .ref wa]))], [(ba, .inl (G.2.1 9, 4, .inr (.inr (.inr (.inr (rfN 4 bA))))))], famW 4 (fun ι => iaP G (bA ι) 5 (bl ι)), [(la, .inl (G.2.1 9, n, .inr (.inr (.inr (.inr (rfN n lA))))))], famW n (fun ι => iaP G (lA ι) 2 (lf ι)), P9] (24 + 3 * i) (144 + 18 * i) 124 [(0, .ref t), (1, .ref o), (2, .ref la), (3, .int (nI n)), (4, .int (nI i))] [] := by
          intro fuel
          induction fuel with
          | zero => intro i bq f9 g9 P9 hi hC9 hW hm; exact absurd hm (Nat.not_lt_zero _)
          | succ fuel ih =>
            intro i bq f9 g9 P9 hi hC9 hW hm
            refine V_iload hC dL_copy_124 4 rfl ?_
            refine V_iload_n hC dL_copy_126 3 rfl ?_
            refine V_icmp_ge hC dL_copy_127 (tgt := 155) (by decide) (fun h4 => ?_) (fun h4 => ?_)
            · have he : i = n := by have := nle h4; omega
              rw [he] at hC9 hW
              rw [he]
              exact V_vret hC hQ hr [0, 1, 2, 3, 4, 5] (u := [[(t, .inr (10, [.ref m, .ref (G.2.2 1), .int (nI d), .ref ba, .ref la, .ref wa]))], [(ba, .inl (G.2.1 9, 4, .inr (.inr (.inr (.inr (rfN 4 bA))))))], famW 4 (fun ι => iaP G (bA ι) 5 (bl ι)), [(la, .inl (G.2.1 9, n, .inr (.inr (.inr (.inr (rfN n lA))))))], famW n (fun ι => iaP G (lA ι) 2 (lf ι)), P9]) (by decide) rfl (by show 24 + 3 * n ≤ 50; omega) (by show 144 + 18 * n ≤ 300; omega) dL_copy_155 (⟨bq, f9, g9, P9, (cBi_end hT hC9).1, (cBi_end hT hC9).2.1, (cBi_end hT hC9).2.2, hW, rfl⟩)
            · have hlt := nnle h4
              obtain ⟨hl0a, hl1a, ⟨v, hv, hfv⟩, hga, hp1, hp2⟩ := hT.2.2.1 i hlt
              have hn4 := hT.1
              refine V_aload_n hC dL_copy_130 2 rfl ?_
              refine V_iload hC dL_copy_131 4 rfl ?_
              refine V_aaldI hC dL_copy_133 (mem_at 3 0 rfl rfl) (vp_in_nI (by omega) (by omega)) (x := i) (nI_clamp (by omega)) (b := lA i) (rfN_at (hlt)) ?_
              refine V_astore hC dL_copy_134 (L' := [(5, .ref (lA i)), (0, .ref t), (1, .ref o), (2, .ref la), (3, .int (nI n)), (4, .int (nI i))]) (by decide) rfl ?_
              refine V_aload_n hC dL_copy_136 2 rfl ?_
              refine V_aload hC dL_copy_137 0 rfl ?_
              refine V_iconst hC dL_copy_139 (v := 0) (by decide) ?_
              refine V_iald hC dL_copy_140 (mem_fam 4 0 rfl i (hlt) rfl) (vin (by decide)) (x := 0) (by decide) ?_
              refine V_eqi (y := nI v) (hl0a.trans hfv) ?_
              refine V_aload hC dL_copy_141 0 rfl ?_
              refine V_iconst hC dL_copy_143 (v := 1) (by decide) ?_
              refine V_iald hC dL_copy_144 (mem_fam 4 0 rfl i (hlt) rfl) (vin (by decide)) (x := 1) (by decide) ?_
              refine V_eqi (y := nI (p i)) (hl1a.trans hga) ?_
              obtain ⟨fshm5, hm5⟩ := isW_mem hW
              refine V_calli hC (V_runV hC (rest := []) [.int (nI v), .int (nI (p i))] (w_blast l hl0 G o 4 bq i f9 g9 kS0 0 (fun _ => lz0) P9 v (nI (p i)) hW (cBi_ok hT hC9 (by omega) (by omega)) hv (inR_nI1 (K := 1) (M := 99) (by omega) (by omega)) (cBi_mn hT hC9 hlt hv hfv).2 (by omega)) [5] rfl (by decide) q831 q813 q814 q20 q815 ⟨by decide, by decide, rfl⟩ ⟨by decide, by decide⟩ (ci := 9) rfl (mem_pc 5 rfl hm5) rfl (Nat.le_of_ble_eq_true rfl) ⟨(by show 24 + 3 * i + 3 ≤ 50; omega), (by show 144 + 18 * i + 18 ≤ 300; omega)⟩ dL_copy_145) (is := [5]) rfl [0, 1, 2, 3, 4] (rs := [[(t, .inr (10, [.ref m, .ref (G.2.2 1), .int (nI d), .ref ba, .ref la, .ref wa]))], [(ba, .inl (G.2.1 9, 4, .inr (.inr (.inr (.inr (rfN 4 bA))))))], famW 4 (fun ι => iaP G (bA ι) 5 (bl ι)), [(la, .inl (G.2.1 9, n, .inr (.inr (.inr (.inr (rfN n lA))))))], famW n (fun ι => iaP G (lA ι) 2 (lf ι))]) rfl (by decide) (by decide) ?_
              rintro _ _ ⟨P96, ⟨rfl, hW6⟩, rfl⟩
              refine V_pop hC dL_copy_148 rfl ?_
              refine V_iinc hC dL_copy_149 (v := nI (i + 1)) (L' := [(4, .int (nI (i + 1))), (5, .ref (lA i)), (0, .ref t), (1, .ref o), (2, .ref la), (3, .int (nI n))]) (j := 5) rfl (nI_1 _) (by decide) rfl ?_
              refine V_goto hC dL_copy_152 (tgt := 124) (by decide) ?_
              refine V_loc (L' := [(0, .ref t), (1, .ref o), (2, .ref la), (3, .int (nI n)), (4, .int (nI (i + 1)))]) [2, 3, 4, 5, 0] rfl ?_
              refine V_sub [1, 2, 3, 4, 5, 0] (by decide) (u := [[(t, .inr (10, [.ref m, .ref (G.2.2 1), .int (nI d), .ref ba, .ref la, .ref wa]))], [(ba, .inl (G.2.1 9, 4, .inr (.inr (.inr (.inr (rfN 4 bA))))))], famW 4 (fun ι => iaP G (bA ι) 5 (bl ι)), [(la, .inl (G.2.1 9, n, .inr (.inr (.inr (.inr (rfN n lA))))))], famW n (fun ι => iaP G (lA ι) 2 (lf ι)), P96]) rfl ?_
              refine V_widen (show 24 + 3 * i + 3 ≤ 24 + 3 * (i + 1) by omega) (show 144 + 18 * i + 18 ≤ 144 + 18 * (i + 1) by omega) ?_
              exact ih (i + 1) _ _ _ _ (by omega) (cBi_put hT hC9 hlt hv hfv) hW6 (by omega)
        refine V_loc (L' := [(0, .ref t), (1, .ref o), (2, .ref la), (3, .int (nI n)), (4, .int 0)]) [3, 4, 2, 1, 0] rfl ?_
        exact loop3 (n + 1) 0 bq (fun _ => 0) (fun _ => 0) P9 (Nat.zero_le _) (cBi_0 hF) hW (by omega)
      · have hlt : k < 4 := nnle (a := 4) h2
        have hTk := hT.2.1 k hlt
        have hn4 := hT.1
        refine V_aload_n hC dL_copy_7 0 rfl ?_
        refine V_get hC dL_copy_8 inAX9 (mem_at 0 0 rfl rfl) rfl 3 (by decide) q725 rfl (v := .ref ba) rfl ?_
        refine V_iload_n hC dL_copy_11 2 rfl ?_
        refine V_aaldI hC dL_copy_12 (mem_at 1 0 rfl rfl) (vp_in_nI (by omega) (by omega)) (x := k) (nI_clamp (by omega)) (b := bA k) (rfN_at (hlt)) ?_
        refine V_iconst hC dL_copy_13 (v := 0) (by decide) ?_
        refine V_iald hC dL_copy_14 (mem_fam 2 0 rfl k (by first | assumption | omega) rfl) (vin (by decide)) (x := 0) (by decide) ?_
        refine V_eqi (y := nI (st k + lsN f p k 0)) (hTk.1) ?_
        refine V_istore_n hC dL_copy_15 (L' := [(3, .int (nI (st k + lsN f p k 0))), (0, .ref t), (1, .ref o), (2, .int (nI k))]) (by decide) rfl ?_
        refine V_aload_n hC dL_copy_16 1 rfl ?_
        refine V_get hC dL_copy_17 inAX9 (mem_at 0 0 rfl rfl) rfl 4 (by decide) q727 rfl (v := .ref la) rfl ?_
        refine V_astore hC dL_copy_20 (L' := [(4, .ref la), (3, .int (nI (st k + lsN f p k 0))), (0, .ref t), (1, .ref o), (2, .int (nI k))]) (by decide) rfl ?_
        refine V_aload hC dL_copy_22 0 rfl ?_
        refine V_alen hC dL_copy_24 9 rfl (mem_at 3 0 rfl rfl) (v := nI n) (rfl) ?_
        refine V_istore hC dL_copy_25 (L' := [(5, .int (nI n)), (4, .ref la), (3, .int (nI (st k + lsN f p k 0))), (0, .ref t), (1, .ref o), (2, .int (nI k))]) (by decide) rfl ?_
        refine V_iconst hC dL_copy_27 (v := 0) (by decide) ?_
        refine V_istore hC dL_copy_28 (L' := [(6, .int 0), (5, .int (nI n)), (4, .ref la), (3, .int (nI (st k + lsN f p k 0))), (0, .ref t), (1, .ref o), (2, .int (nI k))]) (by decide) rfl ?_
        have loop7 : ∀ (fuel : Nat) (i : Nat) (hi : i ≤ n) (_ : n - i < fuel), V pP l eE { frames := 8, cells := 50, slots := 300, locals := 129 } sS mM aA bB tT cC QQ G AA 8 [[(t, .inr (10, [.ref m, .ref (G.2.2 1), .int (nI d), .ref ba, .ref la, .ref wa]))], [(ba, .inl (G.2.1 9, 4, .inr (.inr (.inr (.inr (rfN 4 bA))))))], famW 4 (fun ι => iaP G (bA ι) 5 (bl ι)), [(la, .inl (G.2.1 9, n, .inr (.inr (.inr (.inr (rfN n lA))))))], famW n (fun ι => iaP G (lA ι) 2 (lf ι)), P9] (6 * k) (36 * k) 30 [(0, .ref t), (1, .ref o), (2, .int (nI k)), (3, .int (nI (st k + lsN f p k i))), (4, .ref la), (5, .int (nI n)), (6, .int (nI i))] [] := by
          intro fuel
          induction fuel with
          | zero => intro i hi hm; exact absurd hm (Nat.not_lt_zero _)
          | succ fuel ih =>
            intro i hi hm
            have ih2 := ih
            refine V_iload hC dL_copy_30 6 rfl ?_
            refine V_iload hC dL_copy_32 5 rfl ?_
            refine V_icmp_ge hC dL_copy_34 (tgt := 69) (by decide) (fun h8 => ?_) (fun h8 => ?_)
            · have he : i = n := by have := nle h8; omega
              rw [he]
              refine V_aload_n hC dL_copy_69 1 rfl ?_
              refine V_iload_n hC dL_copy_70 3 rfl ?_
              refine V_aload_n hC dL_copy_71 0 rfl ?_
              refine V_get hC dL_copy_72 inAX9 (mem_at 0 0 rfl rfl) rfl 3 (by decide) q725 rfl (v := .ref ba) rfl ?_
              refine V_iload_n hC dL_copy_75 2 rfl ?_
              refine V_aaldI hC dL_copy_76 (mem_at 1 0 rfl rfl) (vp_in_nI (by omega) (by omega)) (x := k) (nI_clamp (by omega)) (b := bA k) (rfN_at (hlt)) ?_
              refine V_iconst hC dL_copy_77 (v := 1) (by decide) ?_
              refine V_iald hC dL_copy_78 (mem_fam 2 0 rfl k (by first | assumption | omega) rfl) (vin (by decide)) (x := 1) (by decide) ?_
              refine V_aload_n hC dL_copy_79 0 rfl ?_
              refine V_get hC dL_copy_80 inAX9 (mem_at 0 0 rfl rfl) rfl 3 (by decide) q725 rfl (v := .ref ba) rfl ?_
              refine V_iload_n hC dL_copy_83 2 rfl ?_
              refine V_aaldI hC dL_copy_84 (mem_at 1 0 rfl rfl) (vp_in_nI (by omega) (by omega)) (x := k) (nI_clamp (by omega)) (b := bA k) (rfN_at (by first | assumption | omega)) ?_
              refine V_iconst hC dL_copy_85 (v := 2) (by decide) ?_
              refine V_iald hC dL_copy_86 (mem_fam 2 0 rfl k (by first | assumption | omega) rfl) (vin (by decide)) (x := 2) (by decide) ?_
              refine V_aload_n hC dL_copy_87 0 rfl ?_
              refine V_get hC dL_copy_88 inAX9 (mem_at 0 0 rfl rfl) rfl 3 (by decide) q725 rfl (v := .ref ba) rfl ?_
              refine V_iload_n hC dL_copy_91 2 rfl ?_
              refine V_aaldI hC dL_copy_92 (mem_at 1 0 rfl rfl) (vp_in_nI (by omega) (by omega)) (x := k) (nI_clamp (by omega)) (b := bA k) (rfN_at (by first | assumption | omega)) ?_
              refine V_iconst hC dL_copy_93 (v := 3) (by decide) ?_
              refine V_iald hC dL_copy_94 (mem_fam 2 0 rfl k (by first | assumption | omega) rfl) (vin (by decide)) (x := 3) (by decide) ?_
              refine V_aload_n hC dL_copy_95 0 rfl ?_
              refine V_get hC dL_copy_96 inAX9 (mem_at 0 0 rfl rfl) rfl 3 (by decide) q725 rfl (v := .ref ba) rfl ?_
              refine V_iload_n hC dL_copy_99 2 rfl ?_
              refine V_aaldI hC dL_copy_100 (mem_at 1 0 rfl rfl) (vp_in_nI (by omega) (by omega)) (x := k) (nI_clamp (by omega)) (b := bA k) (rfN_at (by first | assumption | omega)) ?_
              refine V_iconst hC dL_copy_101 (v := 4) (by decide) ?_
              refine V_iald hC dL_copy_102 (mem_fam 2 0 rfl k (by first | assumption | omega) rfl) (vin (by decide)) (x := 4) (by decide) ?_
              obtain ⟨fshm9, hm9⟩ := isW_mem hW
              refine V_calli hC (V_runV hC (rest := []) [.int (nI (st k + lsN f p k n)), .int ((bl k) 1), .int ((bl k) 2), .int ((bl k) 3), .int ((bl k) 4)] (w_block l hl0 G o k bq 0 (fun _ => 0) (fun _ => 0) kS0 0 (fun _ => lz0) P9 (nI (st k + lsN f p k n)) ((bl k) 1) ((bl k) 2) ((bl k) 3) ((bl k) 4) hW (cFk_ok hF (by omega)) ⟨inR_nI (M := 200) (by omega), tX_in hX hlt (by decide), tX_in hX hlt (by decide), tX_in hX hlt (by decide), tX_in hX hlt (by decide)⟩ (by omega)) [5] rfl (by decide) q830 q799 q800 q20 q801 ⟨by decide, by decide, rfl⟩ ⟨by decide, by decide⟩ (ci := 9) rfl (mem_pc 5 rfl hm9) rfl (Nat.le_of_ble_eq_true rfl) ⟨(by show 6 * k + 6 ≤ 50; omega), (by show 36 * k + 36 ≤ 300; omega)⟩ dL_copy_103) (is := [5]) rfl [0, 1, 2, 3, 4] (rs := [[(t, .inr (10, [.ref m, .ref (G.2.2 1), .int (nI d), .ref ba, .ref la, .ref wa]))], [(ba, .inl (G.2.1 9, 4, .inr (.inr (.inr (.inr (rfN 4 bA))))))], famW 4 (fun ι => iaP G (bA ι) 5 (bl ι)), [(la, .inl (G.2.1 9, n, .inr (.inr (.inr (.inr (rfN n lA))))))], famW n (fun ι => iaP G (lA ι) 2 (lf ι))]) rfl (by decide) (by decide) ?_
              rintro _ _ ⟨P910, ⟨rfl, hW10⟩, rfl⟩
              refine V_pop hC dL_copy_106 rfl ?_
              refine V_iinc hC dL_copy_107 (v := nI (k + 1)) (L' := [(2, .int (nI (k + 1))), (0, .ref t), (1, .ref o), (3, .int (nI (st k + lsN f p k n))), (4, .ref la), (5, .int (nI n)), (6, .int (nI n))]) (j := 2) rfl (nI_1 _) (by decide) rfl ?_
              refine V_goto hC dL_copy_110 (tgt := 2) (by decide) ?_
              refine V_loc (L' := [(0, .ref t), (1, .ref o), (2, .int (nI (k + 1)))]) [1, 2, 0] rfl ?_
              refine V_sub [1, 2, 3, 4, 5, 0] (by decide) (u := [[(t, .inr (10, [.ref m, .ref (G.2.2 1), .int (nI d), .ref ba, .ref la, .ref wa]))], [(ba, .inl (G.2.1 9, 4, .inr (.inr (.inr (.inr (rfN 4 bA))))))], famW 4 (fun ι => iaP G (bA ι) 5 (bl ι)), [(la, .inl (G.2.1 9, n, .inr (.inr (.inr (.inr (rfN n lA))))))], famW n (fun ι => iaP G (lA ι) 2 (lf ι)), P910]) rfl ?_
              refine V_widen (show 6 * k + 6 ≤ 6 * (k + 1) by omega) (show 36 * k + 36 ≤ 36 * (k + 1) by omega) ?_
              exact ih1 (k + 1) _ _ (by omega) (cFk_put hF hX hlt) hW10 (by omega)
            · have hli := nnle h8
              obtain ⟨hl0a, hl1a, hfa, hga, hp1, hp2⟩ := hT.2.2.1 i hli
              refine V_aload hC dL_copy_37 4 rfl ?_
              refine V_iload hC dL_copy_39 6 rfl ?_
              refine V_aaldI hC dL_copy_41 (mem_at 3 0 rfl rfl) (vp_in_nI (by omega) (by omega)) (x := i) (nI_clamp (by omega)) (b := lA i) (rfN_at (hli)) ?_
              refine V_astore hC dL_copy_42 (L' := [(7, .ref (lA i)), (0, .ref t), (1, .ref o), (2, .int (nI k)), (3, .int (nI (st k + lsN f p k i))), (4, .ref la), (5, .int (nI n)), (6, .int (nI i))]) (by decide) rfl ?_
              refine V_iload_n hC dL_copy_44 4 rfl ?_
              refine V_aload hC dL_copy_45 0 rfl ?_
              refine V_iconst hC dL_copy_47 (v := 0) (by decide) ?_
              refine V_iald hC dL_copy_48 (mem_fam 4 0 rfl i (hli) rfl) (vin (by decide)) (x := 0) (by decide) ?_
              refine V_eqi (y := f i) (hl0a) ?_
              refine V_iload_n hC dL_copy_49 3 rfl ?_
              refine V_icmp_ne hC dL_copy_50 (tgt := 60) (by decide) (fun h11 => ?_) (fun h11 => ?_)
              · have hfn : ¬ f i = nI k := by exact h11
                have hls := lsN_n (p := p) hfn
                refine V_iconst hC dL_copy_60 (v := 0) (by decide) ?_
                refine V_iadd hC dL_copy_61 ?_
                refine V_eqi (y := nI (st k + lsN f p k (i + 1))) (by rw [hls]; exact Int32.add_zero _) ?_
                refine V_istore_n hC dL_copy_62 (L' := [(3, .int (nI (st k + lsN f p k (i + 1)))), (7, .ref (lA i)), (0, .ref t), (1, .ref o), (2, .int (nI k)), (4, .ref la), (5, .int (nI n)), (6, .int (nI i))]) (by decide) rfl ?_
                refine V_iinc hC dL_copy_63 (v := nI (i + 1)) (L' := [(6, .int (nI (i + 1))), (3, .int (nI (st k + lsN f p k (i + 1)))), (7, .ref (lA i)), (0, .ref t), (1, .ref o), (2, .int (nI k)), (4, .ref la), (5, .int (nI n))]) (j := 7) rfl (nI_1 _) (by decide) rfl ?_
                refine V_goto hC dL_copy_66 (tgt := 30) (by decide) ?_
                refine V_loc (L' := [(0, .ref t), (1, .ref o), (2, .int (nI k)), (3, .int (nI (st k + lsN f p k (i + 1)))), (4, .ref la), (5, .int (nI n)), (6, .int (nI (i + 1)))]) [3, 4, 5, 1, 6, 7, 0] rfl ?_
                exact ih2 (i + 1) (by omega) (by omega)
              · have hfe : f i = nI k := by exact h11
                have hls := lsN_p (p := p) hfe
                refine V_aload hC dL_copy_53 0 rfl ?_
                refine V_iconst hC dL_copy_55 (v := 1) (by decide) ?_
                refine V_iald hC dL_copy_56 (mem_fam 4 0 rfl i (hli) rfl) (vin (by decide)) (x := 1) (by decide) ?_
                refine V_eqi (y := nI (p i)) (hl1a.trans hga) ?_
                refine V_goto hC dL_copy_57 (tgt := 61) (by decide) ?_
                refine V_iadd hC dL_copy_61 ?_
                refine V_eqi (y := nI (st k + lsN f p k (i + 1))) (by rw [hls, nI_add, Nat.add_assoc]) ?_
                refine V_istore_n hC dL_copy_62 (L' := [(3, .int (nI (st k + lsN f p k (i + 1)))), (7, .ref (lA i)), (0, .ref t), (1, .ref o), (2, .int (nI k)), (4, .ref la), (5, .int (nI n)), (6, .int (nI i))]) (by decide) rfl ?_
                refine V_iinc hC dL_copy_63 (v := nI (i + 1)) (L' := [(6, .int (nI (i + 1))), (3, .int (nI (st k + lsN f p k (i + 1)))), (7, .ref (lA i)), (0, .ref t), (1, .ref o), (2, .int (nI k)), (4, .ref la), (5, .int (nI n))]) (j := 7) rfl (nI_1 _) (by decide) rfl ?_
                refine V_goto hC dL_copy_66 (tgt := 30) (by decide) ?_
                refine V_loc (L' := [(0, .ref t), (1, .ref o), (2, .int (nI k)), (3, .int (nI (st k + lsN f p k (i + 1)))), (4, .ref la), (5, .int (nI n)), (6, .int (nI (i + 1)))]) [3, 4, 5, 1, 6, 7, 0] rfl ?_
                exact ih2 (i + 1) (by omega) (by omega)
        refine V_loc (L' := [(0, .ref t), (1, .ref o), (2, .int (nI k)), (3, .int (nI (st k + lsN f p k 0))), (4, .ref la), (5, .int (nI n)), (6, .int 0)]) [4, 5, 6, 3, 2, 1, 0] rfl ?_
        exact loop7 (n + 1) 0 (Nat.zero_le _) (by omega)
  refine V_loc (L' := [(0, .ref t), (1, .ref o), (2, .int 0)]) [1, 2, 0] rfl ?_
  exact loop1 (4 + 1) 0 (fun _ => bz0) P (by omega) cFk_0 hP (by omega)
