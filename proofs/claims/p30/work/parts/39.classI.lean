/-! ===== what is thought ===== -/
theorem ofWF {l : Launch} {y : MethodName} {ws ws' : List Cond} {rm : Room} {Pc : Array Value → State → Prop} {Qc : Array Value → State → Outcome → State → Prop} {mc ms : Nat} {free : Addr → Prop} {cc : ByteArray} {maxL : Nat} {ret : Option FieldType}
    (hy : plainFor y = true) (hw : ws = Cond.code y cc maxL ret :: ws')
    (body : ∀ p e s m args below meth c s₁, BodyLoose p l y (headSpec ws rm) cc maxL ret e s m args below meth c s₁ → c.maxLocals = maxL → Pc args s →
      W p l e (headSpec ws rm).room s m args below meth c s.heap [] 0 0 (MQ below Qc args s mc ms free) (entryFrame m args maxL)) : Met l y ws rm Pc Qc mc ms free := by
  refine MetFree.of_bodySF (code := cc) (maxLocals := maxL) (ret := ret) hy ?_ ?_
  · intro args s m h hn
    obtain ⟨meth, c, h1, h2, h3, h4, h5, h6, -, -⟩ := Cond.code_spec hn (atoms_spec (ws := ws) h _ (by rw [hw]; exact List.mem_cons_self))
    exact ⟨meth, c, h1, h2, h3, h4, h5, h6⟩
  · intro p e s m args below meth c s₁ B hml hP _
    obtain ⟨t, a1, o, b1, b2, b3⟩ := body p e s m args below meth c s₁ B hml hP s₁ (by rw [B.state]; rfl) (Stand.of_body B)
    exact ⟨t, o, a1, b1, b2, ⟨b3.1, b3.2⟩⟩
theorem Mi_ofF {l : Launch} {G : VG} {cc : ByteArray} {nL : Nat} {y : MethodName} {ret : FieldType} {fr lo mc ms : Nat} {av : List Value} {pre : List va_W} {post : Int32 → List va_W → Prop} (hy : plainFor y = true) (hav : (lg_sl av).length ≤ nL)
    (body : ∀ (p : Program) (e : Env) (s : State) (m : MethodId) (args : Array Value) (below : List Frame) (meth : Method) (c : Code) (A : Nat → Prop) (Q : State → Prop), VC p s m args meth c G A nL cc y.cls → meth.sig.returnType = some ret → meth.name = y.name → Q = MQ below (QcI G A post) args s mc ms A →
      V p l e { frames := fr, cells := mc, slots := ms, locals := lo } s m args below meth c Q G A nL pre 0 0 0 (lv_args 0 av) []) : Mi l G y cc nL ret fr lo mc ms av pre post := by
  intro sz
  refine ofWF (cc := cc) (maxL := nL) (ret := some ret) hy rfl ?_
  intro p e s m args below meth c s₁ B hml hv
  obtain ⟨rfl, hsz, ⟨hP, hK, hD⟩, hST⟩ := hv
  subst hsz
  have hts := atoms_spec (ws := lw_ws y cc nL (some ret)) B.pre
  have hn := name_of_methodNamed B.named B.method
  have C : VC p s m av.toArray meth c G (va_A pre.flatten s.heap.size) nL cc y.cls := ⟨B.exec, B.bytes, hml, findClass_of_methodNamed B.named, fun w hw => hts w (List.mem_cons_of_mem _ hw), hK, fun q h => Or.inr h, hST, B.notSynchronized⟩
  have hl := lv_entry av hav
  rw [lg_entry_eq]
  exact body p e s m av.toArray below meth c _ _ C B.returns hn.1 rfl s.heap [] _ hP hD.self va_S.rf hl
def flD (x y : Int32) : Int32 := if 0 ≤ (x ^^^ y) then x / y else if x / y * y = x then x / y else x / y - 1
abbrev ugOk (lz : Nat → LV) (a o : Nat) : Prop := ¬ o = a ∧ ¬ ltGr ((lz o).2.1 1) = 0 ∧ ¬ ltGr ((lz o).2.1 2) = 0

def ugI (lz : Nat → LV) (a : Nat) : Nat → Int32 × Nat
  | 0 => (0, 0)
  | t + 1 => if ugOk lz a t then ((ugI lz a t).1 + ((lz t).2.1 2 - (lz t).2.1 1), (ugI lz a t).2 + 1) else ugI lz a t
def ugR (lz : Nat → LV) (a nl : Nat) : Int32 := if (ugI lz a nl).2 = 0 then 10 else flD (ugI lz a nl).1 (nI (ugI lz a nl).2)
theorem ugI_le {lz : Nat → LV} {a : Nat} : ∀ t, (ugI lz a t).2 ≤ t
  | 0 => Nat.le_refl 0
  | t + 1 => by
    have hh := ugI_le (lz := lz) (a := a) t
    show (if _ then _ else _ : Int32 × Nat).2 ≤ t + 1
    split
    · show _ + 1 ≤ t + 1; omega
    · omega
theorem nI_inj {a b : Nat} (h : nI a = nI b) (ha : a < 2 ^ 31 := by omega) (hb : b < 2 ^ 31 := by omega) : a = b := by
  have h2 : (nI a).toInt = (nI b).toInt := by rw [h]
  rw [nI_toInt ha, nI_toInt hb] at h2
  omega
theorem nI_z {a : Nat} (h : nI a = 0) (ha : a < 2 ^ 31 := by omega) : a = 0 := nI_inj (b := 0) h ha
set_option maxHeartbeats 4000000 in
set_option maxRecDepth 100000 in
/-- java/lang/Math.floorDiv -/
theorem c_J9_floorDiv_7cf53 (l : Launch) (G : VG) (x y : Int32) (hy : ¬ y = 0) : Mi l G yJ9_floorDiv_7cf53 cJ9_floorDiv_7cf53 3 .int 0 0 0 0 [.int x, .int y] [] (fun r u => r = flD x y ∧ u = []) := by
  refine Mi_ofF (by decide +kernel) (Nat.le_of_ble_eq_true rfl) (fun pP eE sS mM aA bB tT cC AA QQ hC hr hnm hQ => ?_)
  refine V_iload_n hC dJ9_floorDiv_7cf53_0 0 rfl ?_
  refine V_iload_n hC dJ9_floorDiv_7cf53_1 1 rfl ?_
  refine V_idiv hC dJ9_floorDiv_7cf53_2 (hy) ?_
  refine V_istore_n hC dJ9_floorDiv_7cf53_3 (L' := [(2, .int (x / y)), (0, .int x), (1, .int y)]) (by decide) rfl ?_
  refine V_iload_n hC dJ9_floorDiv_7cf53_4 1 rfl ?_
  refine V_iload_n hC dJ9_floorDiv_7cf53_5 2 rfl ?_
  refine V_ixor hC dJ9_floorDiv_7cf53_6 ?_
  refine V_if_ge hC dJ9_floorDiv_7cf53_7 (tgt := 21) (by decide) (fun h1 => ?_) (fun h1 => ?_)
  · refine V_iload_n hC dJ9_floorDiv_7cf53_21 0 rfl ?_
    exact V_iret hC hQ hr [] (u := []) (by decide) rfl (by decide) (by decide) dJ9_floorDiv_7cf53_22 (⟨by unfold flD; rw [if_pos h1], rfl⟩)
  · refine V_iload_n hC dJ9_floorDiv_7cf53_10 0 rfl ?_
    refine V_iload_n hC dJ9_floorDiv_7cf53_11 2 rfl ?_
    refine V_imul hC dJ9_floorDiv_7cf53_12 ?_
    refine V_iload_n hC dJ9_floorDiv_7cf53_13 1 rfl ?_
    refine V_icmp_eq hC dJ9_floorDiv_7cf53_14 (tgt := 21) (by decide) (fun h2 => ?_) (fun h2 => ?_)
    · refine V_iload_n hC dJ9_floorDiv_7cf53_21 0 rfl ?_
      exact V_iret hC hQ hr [] (u := []) (by decide) rfl (by decide) (by decide) dJ9_floorDiv_7cf53_22 (⟨by unfold flD; rw [if_neg h1, if_pos h2], rfl⟩)
    · refine V_iload_n hC dJ9_floorDiv_7cf53_17 0 rfl ?_
      refine V_iconst hC dJ9_floorDiv_7cf53_18 (v := 1) (by decide) ?_
      refine V_isub hC dJ9_floorDiv_7cf53_19 ?_
      exact V_iret hC hQ hr [] (u := []) (by decide) rfl (by decide) (by decide) dJ9_floorDiv_7cf53_20 (⟨by unfold flD; rw [if_neg h1, if_neg h2], rfl⟩)
set_option maxHeartbeats 4000000 in
set_option maxRecDepth 100000 in
/-- ClinkerWorks.usualGain -/
theorem c_X8_usualGain (l : Launch) (G : VG) (X : Nat → Nat) (nb nl : Nat) (du mo cl : Int32) (T : Nat → Nat → Nat) (lz : Nat → LV) (a : Nat) (x : Int32) (hnl : nl ≤ 12) (ha : a < 12) (hx : x = nI a) : Mi l G yX8_usualGain cX8_usualGain 5 .int 2 42 0 0 [.ref (X 0), .int x] [[(X 0, .inr (9, [.ref (X 1), .int (nI nb), .ref (X 2), .ref (X 6), .ref (X 8), .ref (X 10), .ref (X 14), .ref (X 18), .int (nI nl), .int du, .ref (X 19), .int mo, .ref (X 20), .int cl]))], [(X 18, .inl (G.2.1 5, 12, .inr (.inr (.inr (.inr (refA 12 T))))))], famW 12 (fun ι => ltP G (T ι) (lz ι))] (fun r u => r = ugR lz a nl ∧ u = [[(X 0, .inr (9, [.ref (X 1), .int (nI nb), .ref (X 2), .ref (X 6), .ref (X 8), .ref (X 10), .ref (X 14), .ref (X 18), .int (nI nl), .int du, .ref (X 19), .int mo, .ref (X 20), .int cl]))], [(X 18, .inl (G.2.1 5, 12, .inr (.inr (.inr (.inr (refA 12 T))))))], famW 12 (fun ι => ltP G (T ι) (lz ι))]) := by
  refine Mi_of (by decide) (Nat.le_of_ble_eq_true rfl) (fun pP eE sS mM aA bB tT cC AA QQ hC hr hnm hQ => ?_)
  subst hx
  refine V_iconst hC dX8_usualGain_0 (v := 0) (by decide) ?_
  refine V_istore_n hC dX8_usualGain_1 (L' := [(2, .int 0), (0, .ref (X 0)), (1, .int (nI a))]) (by decide) rfl ?_
  refine V_iconst hC dX8_usualGain_2 (v := 0) (by decide) ?_
  refine V_istore_n hC dX8_usualGain_3 (L' := [(3, .int 0), (2, .int 0), (0, .ref (X 0)), (1, .int (nI a))]) (by decide) rfl ?_
  refine V_iconst hC dX8_usualGain_4 (v := 0) (by decide) ?_
  refine V_istore hC dX8_usualGain_5 (L' := [(4, .int 0), (3, .int 0), (2, .int 0), (0, .ref (X 0)), (1, .int (nI a))]) (by decide) rfl ?_
  have loop1 : ∀ (fuel : Nat) (t : Nat) (ht : t ≤ nl) (_ : nl - t < fuel), V pP l eE { frames := 2, cells := 0, slots := 0, locals := 42 } sS mM aA bB tT cC QQ G AA 5 [[(X 0, .inr (9, [.ref (X 1), .int (nI nb), .ref (X 2), .ref (X 6), .ref (X 8), .ref (X 10), .ref (X 14), .ref (X 18), .int (nI nl), .int du, .ref (X 19), .int mo, .ref (X 20), .int cl]))], [(X 18, .inl (G.2.1 5, 12, .inr (.inr (.inr (.inr (refA 12 T))))))], famW 12 (fun ι => ltP G (T ι) (lz ι))] 0 0 7 [(0, .ref (X 0)), (1, .int (nI a)), (2, .int ((ugI lz a t).1)), (3, .int (nI (ugI lz a t).2)), (4, .int (nI t))] [] := by
    intro fuel
    induction fuel with
    | zero => intro t ht hm; exact absurd hm (Nat.not_lt_zero _)
    | succ fuel ih =>
      intro t ht hm
      refine V_iload hC dX8_usualGain_7 4 rfl ?_
      refine V_aload_n hC dX8_usualGain_9 0 rfl ?_
      refine V_get hC dX8_usualGain_10 inAX8 (mem_at 0 0 rfl rfl) rfl 8 (by decide) q280 rfl (v := .int (nI nl)) rfl ?_
      refine V_icmp_ge hC dX8_usualGain_13 (tgt := 87) (by decide) (fun h2 => ?_) (fun h2 => ?_)
      · have he : t = nl := by have := nle h2; omega
        rw [he]
        refine V_iload_n hC dX8_usualGain_87 3 rfl ?_
        refine V_if_ne hC dX8_usualGain_88 (tgt := 96) (by decide) (fun h3 => ?_) (fun h3 => ?_)
        · have hk : ¬ (ugI lz a nl).2 = 0 := fun e => h3 (by rw [e]; rfl)
          refine V_iload_n hC dX8_usualGain_96 2 rfl ?_
          refine V_iload_n hC dX8_usualGain_97 3 rfl ?_
          refine V_calli hC (V_runS hC (rest := []) [.int ((ugI lz a nl).1), .int (nI (ugI lz a nl).2)] (c_J9_floorDiv_7cf53 l G ((ugI lz a nl).1) (nI (ugI lz a nl).2) (fun e => hk (by have := ugI_le (lz := lz) (a := a) nl; exact nI_z e))) [] rfl (by decide) q678 q679 q35 q680 ⟨by decide, by decide, rfl⟩ ⟨by decide, by decide⟩ rfl (Nat.le_of_ble_eq_true rfl) ⟨by decide, by decide⟩ dX8_usualGain_98) (is := []) rfl [0, 1, 2] (rs := [[(X 0, .inr (9, [.ref (X 1), .int (nI nb), .ref (X 2), .ref (X 6), .ref (X 8), .ref (X 10), .ref (X 14), .ref (X 18), .int (nI nl), .int du, .ref (X 19), .int mo, .ref (X 20), .int cl]))], [(X 18, .inl (G.2.1 5, 12, .inr (.inr (.inr (.inr (refA 12 T))))))], famW 12 (fun ι => ltP G (T ι) (lz ι))]) rfl (by decide) (by decide) ?_
          rintro _ _ ⟨rfl, rfl⟩
          exact V_iret hC hQ hr [0, 1, 2] (u := [[(X 0, .inr (9, [.ref (X 1), .int (nI nb), .ref (X 2), .ref (X 6), .ref (X 8), .ref (X 10), .ref (X 14), .ref (X 18), .int (nI nl), .int du, .ref (X 19), .int mo, .ref (X 20), .int cl]))], [(X 18, .inl (G.2.1 5, 12, .inr (.inr (.inr (.inr (refA 12 T))))))], famW 12 (fun ι => ltP G (T ι) (lz ι))]) (by decide) rfl (by decide) (by decide) dX8_usualGain_101 (⟨by unfold ugR; first | rw [if_pos hk] | rw [if_neg hk], rfl⟩)
        · have hk : (ugI lz a nl).2 = 0 := by have := ugI_le (lz := lz) (a := a) nl; exact nI_z (by first | exact h3 | exact Decidable.not_not.mp h3)
          refine V_bipush hC dX8_usualGain_91 (v := 10) (by decide) ?_
          refine V_goto hC dX8_usualGain_93 (tgt := 101) (by decide) ?_
          exact V_iret hC hQ hr [0, 1, 2] (u := [[(X 0, .inr (9, [.ref (X 1), .int (nI nb), .ref (X 2), .ref (X 6), .ref (X 8), .ref (X 10), .ref (X 14), .ref (X 18), .int (nI nl), .int du, .ref (X 19), .int mo, .ref (X 20), .int cl]))], [(X 18, .inl (G.2.1 5, 12, .inr (.inr (.inr (.inr (refA 12 T))))))], famW 12 (fun ι => ltP G (T ι) (lz ι))]) (by decide) rfl (by decide) (by decide) dX8_usualGain_101 (⟨by unfold ugR; first | rw [if_pos hk] | rw [if_neg hk], rfl⟩)
      · have hlt := nnle h2
        refine V_iload hC dX8_usualGain_16 4 rfl ?_
        refine V_iload_n hC dX8_usualGain_18 1 rfl ?_
        refine V_icmp_eq hC dX8_usualGain_19 (tgt := 81) (by decide) (fun h4 => ?_) (fun h4 => ?_)
        · have heq : t = a := nI_inj h4
          refine V_iinc hC dX8_usualGain_81 (v := nI (t + 1)) (L' := [(4, .int (nI (t + 1))), (0, .ref (X 0)), (1, .int (nI a)), (2, .int ((ugI lz a t).1)), (3, .int (nI (ugI lz a t).2))]) (j := 4) rfl (nI_1 _) (by decide) rfl ?_
          refine V_goto hC dX8_usualGain_84 (tgt := 7) (by decide) ?_
          refine V_loc (L' := [(0, .ref (X 0)), (1, .int (nI a)), (2, .int ((ugI lz a t).1)), (3, .int (nI (ugI lz a t).2)), (4, .int (nI (t + 1)))]) [1, 2, 3, 4, 0] rfl ?_
          have e : ugI lz a (t + 1) = (ugI lz a t) := if_neg (fun e => e.1 heq)
          have hh := ih (t + 1) (by omega) (by omega)
          rw [e] at hh
          exact hh
        · have hne : ¬ t = a := fun e => h4 (by rw [e])
          refine V_aload_n hC dX8_usualGain_22 0 rfl ?_
          refine V_get hC dX8_usualGain_23 inAX8 (mem_at 0 0 rfl rfl) rfl 7 (by decide) q279 rfl (v := .ref (X 18)) rfl ?_
          refine V_iload hC dX8_usualGain_26 4 rfl ?_
          refine V_aald hC dX8_usualGain_28 5 rfl (mem_at 1 0 rfl rfl) (vp_in_nI (by omega) (by omega)) (x := t) (nI_clamp (by omega)) (b := (T t) 0) (refA_at (by omega)) ?_
          refine V_iconst hC dX8_usualGain_29 (v := 1) (by decide) ?_
          refine V_sub [2, 0, 1] (by decide) (u := [famW 12 (fun ι => ltP G (T ι) (lz ι)), [(X 0, .inr (9, [.ref (X 1), .int (nI nb), .ref (X 2), .ref (X 6), .ref (X 8), .ref (X 10), .ref (X 14), .ref (X 18), .int (nI nl), .int du, .ref (X 19), .int mo, .ref (X 20), .int cl]))], [(X 18, .inl (G.2.1 5, 12, .inr (.inr (.inr (.inr (refA 12 T))))))]]) rfl ?_
          refine V_open (i := t) (by omega) ?_
          refine V_calli hC (V_runV hC (rest := []) [.int 1] (k_X3_isFound l G (T t) (lz t) 1 1 (by decide) rfl) [0] rfl (by decide) q664 q665 q666 q27 q667 ⟨by decide, by decide, rfl⟩ ⟨by decide, by decide⟩ (ci := 4) rfl (mem_at 0 0 rfl rfl) rfl (Nat.le_of_ble_eq_true rfl) ⟨by decide, by decide⟩ dX8_usualGain_30) (is := [0]) rfl [1, 2, 3] (rs := [famX 12 t (fun ι => ltP G (T ι) (lz ι)), [(X 0, .inr (9, [.ref (X 1), .int (nI nb), .ref (X 2), .ref (X 6), .ref (X 8), .ref (X 10), .ref (X 14), .ref (X 18), .int (nI nl), .int du, .ref (X 19), .int mo, .ref (X 20), .int cl]))], [(X 18, .inl (G.2.1 5, 12, .inr (.inr (.inr (.inr (refA 12 T))))))]]) rfl (by decide) (by decide) ?_
          rintro _ _ ⟨rfl, rfl⟩
          refine V_close (i := t) (g' := fun ι => ltP G (T ι) (lz ι)) (by omega) (rfl) (fun _ _ _ => rfl) ?_
          refine V_if_eq hC dX8_usualGain_33 (tgt := 81) (by decide) (fun h5 => ?_) (fun h5 => ?_)
          · refine V_iinc hC dX8_usualGain_81 (v := nI (t + 1)) (L' := [(4, .int (nI (t + 1))), (0, .ref (X 0)), (1, .int (nI a)), (2, .int ((ugI lz a t).1)), (3, .int (nI (ugI lz a t).2))]) (j := 4) rfl (nI_1 _) (by decide) rfl ?_
            refine V_goto hC dX8_usualGain_84 (tgt := 7) (by decide) ?_
            refine V_loc (L' := [(0, .ref (X 0)), (1, .int (nI a)), (2, .int ((ugI lz a t).1)), (3, .int (nI (ugI lz a t).2)), (4, .int (nI (t + 1)))]) [1, 2, 3, 4, 0] rfl ?_
            refine V_sub [1, 2, 0] (by decide) (u := [[(X 0, .inr (9, [.ref (X 1), .int (nI nb), .ref (X 2), .ref (X 6), .ref (X 8), .ref (X 10), .ref (X 14), .ref (X 18), .int (nI nl), .int du, .ref (X 19), .int mo, .ref (X 20), .int cl]))], [(X 18, .inl (G.2.1 5, 12, .inr (.inr (.inr (.inr (refA 12 T))))))], famW 12 (fun ι => ltP G (T ι) (lz ι))]) rfl ?_
            have e : ugI lz a (t + 1) = (ugI lz a t) := if_neg (fun e => e.2.1 h5)
            have hh := ih (t + 1) (by omega) (by omega)
            rw [e] at hh
            exact hh
          · refine V_aload_n hC dX8_usualGain_36 0 rfl ?_
            refine V_get hC dX8_usualGain_37 inAX8 (mem_at 1 0 rfl rfl) rfl 7 (by decide) q279 rfl (v := .ref (X 18)) rfl ?_
            refine V_iload hC dX8_usualGain_40 4 rfl ?_
            refine V_aald hC dX8_usualGain_42 5 rfl (mem_at 2 0 rfl rfl) (vp_in_nI (by omega) (by omega)) (x := t) (nI_clamp (by omega)) (b := (T t) 0) (refA_at (by omega)) ?_
            refine V_iconst hC dX8_usualGain_43 (v := 2) (by decide) ?_
            refine V_open (i := t) (by omega) ?_
            refine V_calli hC (V_runV hC (rest := []) [.int 2] (k_X3_isFound l G (T t) (lz t) 2 2 (by decide) rfl) [0] rfl (by decide) q664 q665 q666 q27 q667 ⟨by decide, by decide, rfl⟩ ⟨by decide, by decide⟩ (ci := 4) rfl (mem_at 0 0 rfl rfl) rfl (Nat.le_of_ble_eq_true rfl) ⟨by decide, by decide⟩ dX8_usualGain_44) (is := [0]) rfl [1, 2, 3] (rs := [famX 12 t (fun ι => ltP G (T ι) (lz ι)), [(X 0, .inr (9, [.ref (X 1), .int (nI nb), .ref (X 2), .ref (X 6), .ref (X 8), .ref (X 10), .ref (X 14), .ref (X 18), .int (nI nl), .int du, .ref (X 19), .int mo, .ref (X 20), .int cl]))], [(X 18, .inl (G.2.1 5, 12, .inr (.inr (.inr (.inr (refA 12 T))))))]]) rfl (by decide) (by decide) ?_
            rintro _ _ ⟨rfl, rfl⟩
            refine V_close (i := t) (g' := fun ι => ltP G (T ι) (lz ι)) (by omega) (rfl) (fun _ _ _ => rfl) ?_
            refine V_if_eq hC dX8_usualGain_47 (tgt := 81) (by decide) (fun h6 => ?_) (fun h6 => ?_)
            · refine V_iinc hC dX8_usualGain_81 (v := nI (t + 1)) (L' := [(4, .int (nI (t + 1))), (0, .ref (X 0)), (1, .int (nI a)), (2, .int ((ugI lz a t).1)), (3, .int (nI (ugI lz a t).2))]) (j := 4) rfl (nI_1 _) (by decide) rfl ?_
              refine V_goto hC dX8_usualGain_84 (tgt := 7) (by decide) ?_
              refine V_loc (L' := [(0, .ref (X 0)), (1, .int (nI a)), (2, .int ((ugI lz a t).1)), (3, .int (nI (ugI lz a t).2)), (4, .int (nI (t + 1)))]) [1, 2, 3, 4, 0] rfl ?_
              refine V_sub [1, 2, 0] (by decide) (u := [[(X 0, .inr (9, [.ref (X 1), .int (nI nb), .ref (X 2), .ref (X 6), .ref (X 8), .ref (X 10), .ref (X 14), .ref (X 18), .int (nI nl), .int du, .ref (X 19), .int mo, .ref (X 20), .int cl]))], [(X 18, .inl (G.2.1 5, 12, .inr (.inr (.inr (.inr (refA 12 T))))))], famW 12 (fun ι => ltP G (T ι) (lz ι))]) rfl ?_
              have e : ugI lz a (t + 1) = (ugI lz a t) := if_neg (fun e => e.2.2 h6)
              have hh := ih (t + 1) (by omega) (by omega)
              rw [e] at hh
              exact hh
            · refine V_iload_n hC dX8_usualGain_50 2 rfl ?_
              refine V_aload_n hC dX8_usualGain_51 0 rfl ?_
              refine V_get hC dX8_usualGain_52 inAX8 (mem_at 1 0 rfl rfl) rfl 7 (by decide) q279 rfl (v := .ref (X 18)) rfl ?_
              refine V_iload hC dX8_usualGain_55 4 rfl ?_
              refine V_aald hC dX8_usualGain_57 5 rfl (mem_at 2 0 rfl rfl) (vp_in_nI (by omega) (by omega)) (x := t) (nI_clamp (by omega)) (b := (T t) 0) (refA_at (by omega)) ?_
              refine V_get hC dX8_usualGain_58 inAX3 (mem_fam 0 0 rfl t (by first | assumption | omega) rfl) rfl 6 (by decide) q240 rfl (v := .ref ((T t) 1)) rfl ?_
              refine V_iconst hC dX8_usualGain_61 (v := 2) (by decide) ?_
              refine V_iald hC dX8_usualGain_62 (mem_fam 0 1 rfl t (by first | assumption | omega) rfl) (vin (by decide)) (x := 2) (by decide) ?_
              refine V_aload_n hC dX8_usualGain_63 0 rfl ?_
              refine V_get hC dX8_usualGain_64 inAX8 (mem_at 1 0 rfl rfl) rfl 7 (by decide) q279 rfl (v := .ref (X 18)) rfl ?_
              refine V_iload hC dX8_usualGain_67 4 rfl ?_
              refine V_aald hC dX8_usualGain_69 5 rfl (mem_at 2 0 rfl rfl) (vp_in_nI (by omega) (by omega)) (x := t) (nI_clamp (by omega)) (b := (T t) 0) (refA_at (by omega)) ?_
              refine V_get hC dX8_usualGain_70 inAX3 (mem_fam 0 0 rfl t (by first | assumption | omega) rfl) rfl 6 (by decide) q240 rfl (v := .ref ((T t) 1)) rfl ?_
              refine V_iconst hC dX8_usualGain_73 (v := 1) (by decide) ?_
              refine V_iald hC dX8_usualGain_74 (mem_fam 0 1 rfl t (by first | assumption | omega) rfl) (vin (by decide)) (x := 1) (by decide) ?_
              refine V_isub hC dX8_usualGain_75 ?_
              refine V_iadd hC dX8_usualGain_76 ?_
              refine V_istore_n hC dX8_usualGain_77 (L' := [(2, .int (((ugI lz a t).1) + ((((lz t).2.1) 2) - (((lz t).2.1) 1)))), (0, .ref (X 0)), (1, .int (nI a)), (3, .int (nI (ugI lz a t).2)), (4, .int (nI t))]) (by decide) rfl ?_
              refine V_iinc hC dX8_usualGain_78 (v := nI ((ugI lz a t).2 + 1)) (L' := [(3, .int (nI ((ugI lz a t).2 + 1))), (2, .int (((ugI lz a t).1) + ((((lz t).2.1) 2) - (((lz t).2.1) 1)))), (0, .ref (X 0)), (1, .int (nI a)), (4, .int (nI t))]) (j := 3) rfl (nI_1 _) (by decide) rfl ?_
              refine V_iinc hC dX8_usualGain_81 (v := nI (t + 1)) (L' := [(4, .int (nI (t + 1))), (3, .int (nI ((ugI lz a t).2 + 1))), (2, .int (((ugI lz a t).1) + ((((lz t).2.1) 2) - (((lz t).2.1) 1)))), (0, .ref (X 0)), (1, .int (nI a))]) (j := 4) rfl (nI_1 _) (by decide) rfl ?_
              refine V_goto hC dX8_usualGain_84 (tgt := 7) (by decide) ?_
              refine V_loc (L' := [(0, .ref (X 0)), (1, .int (nI a)), (2, .int (((ugI lz a t).1) + ((((lz t).2.1) 2) - (((lz t).2.1) 1)))), (3, .int (nI ((ugI lz a t).2 + 1))), (4, .int (nI (t + 1)))]) [3, 4, 2, 1, 0] rfl ?_
              refine V_sub [1, 2, 0] (by decide) (u := [[(X 0, .inr (9, [.ref (X 1), .int (nI nb), .ref (X 2), .ref (X 6), .ref (X 8), .ref (X 10), .ref (X 14), .ref (X 18), .int (nI nl), .int du, .ref (X 19), .int mo, .ref (X 20), .int cl]))], [(X 18, .inl (G.2.1 5, 12, .inr (.inr (.inr (.inr (refA 12 T))))))], famW 12 (fun ι => ltP G (T ι) (lz ι))]) rfl ?_
              have e : ugI lz a (t + 1) = ((ugI lz a t).1 + ((lz t).2.1 2 - (lz t).2.1 1), (ugI lz a t).2 + 1) := if_pos ⟨hne, h5, h6⟩
              have hh := ih (t + 1) (by omega) (by omega)
              rw [e] at hh
              exact hh
  refine V_loc (L' := [(0, .ref (X 0)), (1, .int (nI a)), (2, .int 0), (3, .int 0), (4, .int 0)]) [3, 4, 2, 1, 0] rfl ?_
  exact loop1 (nl + 1) 0 (Nat.zero_le _) (by omega)
